import java.lang.reflect.Constructor;
import java.lang.reflect.Field;
import java.lang.reflect.Member;
import java.lang.reflect.Method;
import java.lang.reflect.Modifier;
import java.util.Arrays;
import java.util.Set;
import java.util.TreeSet;

/** The public face of the document, and that there is nothing else to be seen (rule 1 of LANGUAGE.md). */
public final class FaceTest {
    private static final String[] METHODS = {
        "int type(long, int)",
        "int read()",
        "int place()",
        "int count(int)",
        "int letter(int)",
        "int number(int, int) IndexOutOfBoundsException",
        "int solvable() IllegalStateException",
        "int kernel() IllegalStateException",
        "long kernelAt(int, int) IndexOutOfBoundsException",
        "int work(int, int) IllegalArgumentException IllegalStateException",
        "int at(int, int, int) IndexOutOfBoundsException",
        "void tell(int, int) IndexOutOfBoundsException IllegalArgumentException",
        "int holds() IllegalStateException",
        "int split()",
        "int times(int)",
        "void cost(int, int) IndexOutOfBoundsException IllegalArgumentException",
        "int best(int) IllegalArgumentException IllegalStateException NoSuchElementException",
        "int bestAt(int)",
    };

    public static void main(String[] args) {
        Class<?> face = LeastSolutions.class;
        Due.answer("public and final", face.getModifiers(), Modifier.PUBLIC | Modifier.FINAL);
        Due.answer("NONE", LeastSolutions.NONE, -1);
        methods(face);
        for (Field field : face.getDeclaredFields()) {
            Due.holds(field + " is private, or NONE", isHidden(field) || field.getName().equals("NONE"));
            Due.holds(field + " is final if it is static", !isStatic(field) || Modifier.isFinal(field.getModifiers()));
        }
        for (Constructor<?> made : face.getDeclaredConstructors()) {
            Due.holds(made + " is the document's", Modifier.isPublic(made.getModifiers())
                    && made.getParameterCount() == 0);
        }
        for (Class<?> inside : face.getDeclaredClasses()) {
            Due.holds(inside + " is static and not for all", Modifier.isStatic(inside.getModifiers())
                    && !Modifier.isPublic(inside.getModifiers()) && !Modifier.isProtected(inside.getModifiers()));
        }
        Due.end("FaceTest");
    }

    private static void methods(Class<?> face) {
        Set<String> due = new TreeSet<>(Arrays.asList(METHODS));
        Set<String> names = new TreeSet<>();
        for (Method method : face.getMethods()) {
            if (method.getDeclaringClass() == face) {
                names.add(method.getName());
                Due.holds(told(method) + " is the document's", due.remove(told(method)));
            }
        }
        Due.holds("not to be found: " + due, due.isEmpty());
        for (Method method : face.getDeclaredMethods()) {
            if (!Modifier.isPublic(method.getModifiers())) {
                Due.holds(method + " is private", isHidden(method));
                Due.holds(method + " has a name of its own", !names.contains(method.getName()));
            }
        }
    }

    private static String told(Method method) {
        StringBuilder told = new StringBuilder();
        told.append(method.getReturnType()).append(' ').append(method.getName()).append('(');
        String between = "";
        for (Class<?> parameter : method.getParameterTypes()) {
            told.append(between).append(parameter);
            between = ", ";
        }
        told.append(')');
        for (Class<?> exception : method.getExceptionTypes()) {
            told.append(' ').append(exception.getSimpleName());
        }
        return told.toString();
    }

    private static boolean isHidden(Member member) {
        return Modifier.isPrivate(member.getModifiers());
    }

    private static boolean isStatic(Member member) {
        return Modifier.isStatic(member.getModifiers());
    }
}
