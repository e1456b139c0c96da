/** Promises 1 to 7: a new object, type, read, place, count, letter, number. */
public final class TextTest {
    private static final int NONE = LeastSolutions.NONE;

    public static void main(String[] args) {
        newObject();
        type();
        typeToTheEnd();
        noneOfIt();
        words();
        many();
        large();
        orderOfFaults();
        whatReadLeaves();
        whatReadDrops();
        count();
        letter();
        number();
        Due.end("TextTest");
    }

    private static void newObject() {
        LeastSolutions x = new LeastSolutions();
        Due.answer("NONE", NONE, -1);
        Due.answer("place() before read()", x.place(), NONE);
        for (int what = -1; what <= 3; what++) {
            Due.answer("count() without a system", x.count(what), NONE);
        }
        Due.answer("letter() without a system", x.letter(0), NONE);
        Due.exception("number() without a system", IndexOutOfBoundsException.class, () -> x.number(0, 0));
        Due.answer("the first type() of a new object", x.type('a', 1), 1);
        Due.answer("place() before read()", x.place(), NONE);
        LeastSolutions y = new LeastSolutions();
        Due.answer("read() of no text", y.read(), 1);
        Due.answer("place() of no text", y.place(), 0);
    }

    private static void type() {
        LeastSolutions x = new LeastSolutions();
        Due.answer("n 0", x.type('a', 0), NONE);
        Due.answer("n 9", x.type('a', 9), NONE);
        Due.answer("n -1", x.type('a', -1), NONE);
        Due.answer("n least", x.type('a', Integer.MIN_VALUE), NONE);
        Due.answer("n greatest", x.type('a', Integer.MAX_VALUE), NONE);
        Due.answer("character 31", x.type(31, 1), NONE);
        Due.answer("character 127", x.type(127, 1), NONE);
        Due.answer("character 128", x.type(128, 1), NONE);
        Due.answer("character 255", x.type(-1, 1), NONE);
        Due.answer("character 0 above", x.type('a', 2), NONE);
        Due.answer("31 in the middle", x.type(0x611F61, 3), NONE);
        Due.answer("31 in the lowest", x.type(0x61611F, 3), NONE);
        Due.answer("128 in the highest", x.type(0x8061616161616161L, 8), NONE);
        Due.answer("character 32", x.type(32, 1), 1);
        Due.answer("character 126", x.type(126, 1), 2);
        Due.answer("only the lowest bytes count", x.type(0xFF00001F00003D61L, 2), 4);
        Due.answer("read()", x.read(), 1);
        Due.answer("place()", x.place(), 1);
        Due.answer("eight at once", x.type(Due.packed("3x+4y=17"), 8), 8);
        Due.answer("what is NONE puts nothing", x.type(31, 1), NONE);
        Due.answer("read() in the order of typing", x.read(), 0);
        Due.answer("letter(0)", x.letter(0), 'x');
        Due.answer("number(0, 0)", x.number(0, 0), 3);
        Due.answer("number(0, 1)", x.number(0, 1), 4);
        Due.answer("number(0, 2)", x.number(0, 2), 17);
        Due.answer("the text is empty again", x.type('a', 1), 1);
    }

    private static void typeToTheEnd() {
        LeastSolutions x = new LeastSolutions();
        for (int i = 1; i <= 37; i++) {
            Due.answer("type()", x.type(Due.packed("        "), 8), 8 * i);
        }
        Due.answer("more than 300", x.type(Due.packed("a=1  "), 5), NONE);
        Due.answer("much more than 300", x.type(Due.packed("        "), 8), NONE);
        Due.answer("just 300", x.type(Due.packed(" a=1"), 4), 300);
        Due.answer("301", x.type(' ', 1), NONE);
        Due.answer("read() of 300", x.read(), 0);
        Due.answer("number(0, 1)", x.number(0, 1), 1);
        for (int i = 1; i <= 37; i++) {
            x.type(Due.packed("        "), 8);
        }
        Due.answer("300 again", x.type(Due.packed("  a="), 4), 300);
        Due.answer("read() of what ends too early", x.read(), 1);
        Due.answer("place() is the length", x.place(), 300);
        Due.fault(x, "1+".repeat(149) + "1", 1, 299);
        Due.fault(x, "2+".repeat(148) + "2=1", 3, 297);
        Due.fault(x, "1-".repeat(148) + "1=1", 0, NONE);
        Due.answer("B of 149 numbers", x.number(0, 0), 1 + 147);
    }

    private static void noneOfIt() {
        LeastSolutions x = new LeastSolutions();
        Due.fault(x, "", 1, 0);
        Due.fault(x, "   ", 1, 3);
        Due.fault(x, "a", 1, 1);
        Due.fault(x, "a  ", 1, 3);
        Due.fault(x, "a=", 1, 2);
        Due.fault(x, "a=1;  ", 1, 6);
        Due.fault(x, "a+", 1, 2);
        Due.fault(x, "a=1+", 1, 4);
        Due.fault(x, "a=1-", 1, 4);
        Due.fault(x, "a=2*", 1, 4);
        Due.fault(x, "-", 1, 1);
        Due.fault(x, "a=1;b", 1, 5);
        Due.fault(x, "=a", 1, 0);
        Due.fault(x, ";a=1", 1, 0);
        Due.fault(x, "*a=1", 1, 0);
        Due.fault(x, "+a=1", 1, 0);
        Due.fault(x, "--a=1", 1, 1);
        Due.fault(x, "a++b=1", 1, 2);
        Due.fault(x, "a-+b=1", 1, 2);
        Due.fault(x, "a=+1", 1, 2);
        Due.fault(x, "a;b=1", 1, 1);
        Due.fault(x, "a=b=c", 1, 3);
        Due.fault(x, "a=b<=c", 1, 3);
        Due.fault(x, "a=1;;b=2", 1, 4);
        Due.fault(x, "a=1; =2", 1, 5);
        Due.fault(x, "ab=1", 1, 1);
        Due.fault(x, "a b=1", 1, 2);
        Due.fault(x, "a2=1", 1, 1);
        Due.fault(x, "a*2=1", 1, 1);
        Due.fault(x, "a*b=1", 1, 1);
        Due.fault(x, "2**a=1", 1, 2);
        Due.fault(x, "2*3=a", 1, 2);
        Due.fault(x, "2*-a=1", 1, 2);
        Due.fault(x, "2*=1", 1, 2);
        Due.fault(x, "2*", 1, 2);
        Due.fault(x, "1 2=a", 1, 2);
        Due.fault(x, "2a*b=1", 1, 2);
        Due.fault(x, "2aa=1", 1, 2);
    }

    private static void words() {
        LeastSolutions x = new LeastSolutions();
        Due.fault(x, "a=A", 1, 2);
        Due.fault(x, "a=1!", 1, 3);
        Due.fault(x, "(a)=1", 1, 0);
        Due.fault(x, "a~1", 1, 1);
        Due.fault(x, "a=`", 1, 2);
        Due.fault(x, "a={", 1, 2);
        Due.fault(x, "a=/", 1, 2);
        Due.fault(x, "a=:", 1, 2);
        Due.fault(x, "a<1", 1, 1);
        Due.fault(x, "a>1", 1, 1);
        Due.fault(x, "a<", 1, 1);
        Due.fault(x, "a>", 1, 1);
        Due.fault(x, "a< =1", 1, 1);
        Due.fault(x, "a=<1", 1, 2);
        Due.fault(x, "a=>=1", 1, 2);
        Due.fault(x, "a<==1", 1, 3);
        Due.fault(x, "a<>1", 1, 1);
        Due.fault(x, "a<=1", 0, NONE);
        Due.fault(x, "a<", 1, 1);
        Due.fault(x, "a=1" + " ".repeat(296) + "<", 1, 299);
        Due.fault(x, "a=1" + " ".repeat(292) + "+9999", 3, 1);
        Due.fault(x, "a=1" + " ".repeat(292) + "12345", 1, 295);
        Due.fault(x, "12345=a", 1, 0);
        Due.fault(x, "a=00000", 1, 2);
        Due.fault(x, "a= 123456789012", 1, 3);
        Due.fault(x, "a=12345b", 1, 2);
        Due.fault(x, "1a=0", 0, NONE);
        Due.fault(x, "a=0000", 0, NONE);
        Due.fault(x, "0020*a=0200", 0, NONE);
        Due.answer("A", x.number(0, 0), 20);
        Due.answer("B", x.number(0, 1), 200);
        Due.fault(x, " - 3 * x - y>= - 2 x +7-  1 ; z <=z+2z ", 0, NONE);
        Due.answer("A of x", x.number(0, 0), -1);
        Due.answer("A of y", x.number(0, 1), -1);
        Due.answer("A of z", x.number(0, 2), 0);
        Due.answer("A of its own slack", x.number(0, 3), -1);
        Due.answer("A of another slack", x.number(0, 4), 0);
        Due.answer("B", x.number(0, 5), 6);
        Due.answer("A of z in the next row", x.number(1, 2), -2);
        Due.answer("A of another slack in the next row", x.number(1, 3), 0);
        Due.answer("A of its own slack in the next row", x.number(1, 4), 1);
    }

    private static void many() {
        LeastSolutions x = new LeastSolutions();
        Due.fault(x, "a=1;a=1;a=1;a=1", 0, NONE);
        Due.fault(x, "a=1;a=1;a=1;a=1;a=1", 2, 16);
        Due.fault(x, "a=1;a=1;a=1;a=1;  -a=1", 2, 18);
        Due.fault(x, "a=1;a=1;a=1;a=1;a=1;a=1;21a=1", 2, 16);
        Due.fault(x, "a+b+c+d+e+f=a+b", 0, NONE);
        Due.fault(x, "a+b+c+d+e+f+2g=1", 2, 13);
        Due.fault(x, "a+b+c+d+e+f=1- 1*g", 2, 17);
        Due.fault(x, "a+b+c+d+e<=f", 2, 9);
        Due.fault(x, "a+b+c+d+e>=1", 0, NONE);
        Due.fault(x, "a+b+c+d>=1;e=1;a=1", 0, NONE);
        Due.fault(x, "a+b+c+d>=1;e=1;f=1", 2, 15);
        Due.fault(x, "a+b+c<=1;a<=1;a<=1", 0, NONE);
        Due.fault(x, "a+b+c<=1;a<=1;a<=1;a >= 1", 2, 21);
        Due.fault(x, "a+b+c<=1;a<=1;a<=1;d>=1", 2, 19);
        Due.fault(x, "1<=1;1<=1;1<=1;1>=1", 0, NONE);
        Due.answer("columns of slacks alone", x.count(1), 4);
        Due.answer("no variables", x.count(2), 0);
    }

    private static void large() {
        LeastSolutions x = new LeastSolutions();
        Due.fault(x, "20a=200", 0, NONE);
        Due.fault(x, "-20a=-200", 0, NONE);
        Due.fault(x, "21a=1", 3, 3);
        Due.fault(x, "-21a<=1", 3, 4);
        Due.fault(x, "a>=20a+21 b -b", 0, NONE);
        Due.fault(x, "a >= 22a", 3, 2);
        Due.fault(x, "a+11b=1;b=20b+2a-b+3b", 3, 9);
        Due.fault(x, "a=201", 3, 1);
        Due.fault(x, "201=a", 3, 3);
        Due.fault(x, "a=1000-800", 0, NONE);
        Due.fault(x, "a-9999=9999-9999-9999+200", 0, NONE);
        Due.answer("B", x.number(0, 1), 200);
        Due.fault(x, "10a+9999b=1-10a+9999b", 0, NONE);
        Due.answer("A of a", x.number(0, 0), 20);
        Due.answer("A of b", x.number(0, 1), 0);
        Due.answer("B", x.number(0, 2), 1);
    }

    private static void orderOfFaults() {
        LeastSolutions x = new LeastSolutions();
        Due.fault(x, "21a=1;b=1;c=1;d=1;e=1;", 1, 22);
        Due.fault(x, "a+b+c+d+e+f+g=1;h==1", 1, 18);
        Due.fault(x, "21a+b+c+d+e+f+g=1", 2, 14);
        Due.fault(x, "21a+b+c+d+e+f<=1", 2, 13);
        Due.fault(x, "21a=1;a+b+c+d+e+f+g=1", 3, 3);
        Due.fault(x, "a=1;a=1;a=1;a=201;a=1", 3, 13);
        Due.fault(x, "a=1;a=1;a=1;a=1;a=201", 2, 16);
        Due.fault(x, "a+b+c+d+e+f=1;21a=1;a<=1", 3, 17);
        Due.fault(x, "a+b+c+d+e+f=1;a<=1;21a=1", 2, 15);
    }

    private static void whatReadLeaves() {
        LeastSolutions x = Due.system("x+y=3");
        x.work(0, 4);
        x.work(1, 4);
        x.work(2, 4);
        Due.tell(x, 1, 2);
        x.cost(0, -5);
        x.best(9);
        x.split();
        Due.fault(x, "u=", 1, 2);
        Due.fault(x, "a+b+c+d+e+f+g=1", 2, 12);
        Due.fault(x, "q=300", 3, 1);
        Due.answer("the text is empty with a fault, too", x.type('a', 1), 1);
        Due.answer("columns stay", x.count(1), 2);
        Due.answer("letters stay", x.letter(1), 'y');
        Due.answer("numbers stay", x.number(0, 2), 3);
        Due.answer("the kernel stays", x.kernelAt(0, 1), -1);
        Due.answer("lists stay", x.at(1, 3, 0), 3);
        Due.answer("the list of no summands stays", x.split(), 1);
        Due.answer("the signed list stays", x.at(2, 0, 1), -1);
        Due.answer("the vector stays", x.holds(), 5);
        Due.answer("the best one stays", x.bestAt(0), 3);
        Due.answer("costs stay", x.best(9), -15);
    }

    private static void whatReadDrops() {
        LeastSolutions x = Due.system("x=y");
        x.work(0, 4);
        x.work(1, 4);
        x.work(2, 4);
        Due.tell(x, 2, 2);
        x.split();
        x.cost(0, -5);
        x.best(9);
        Due.answer("times(0)", x.times(0), 2);
        Due.answer("bestAt(0)", x.bestAt(0), 4);
        Due.tell(x, 5, 3);
        Due.fault(x, "x=y", 0, NONE);
        for (int list = 0; list <= 2; list++) {
            int what = list;
            Due.exception("at() of a list that is gone", IndexOutOfBoundsException.class, () -> x.at(what, 0, 0));
        }
        Due.answer("split() without lists", x.split(), NONE);
        Due.answer("times() without lists", x.times(0), NONE);
        Due.answer("bestAt() of a best one that is gone", x.bestAt(0), NONE);
        Due.answer("the vector is 0", x.holds(), 7);
        x.tell(0, 1);
        Due.answer("the other number is 0, too", x.holds(), 4);
        Due.answer("costs are 0", x.best(9), 0);
        Due.answer("the best one by columns", x.bestAt(0), 0);
    }

    private static void count() {
        LeastSolutions x = Due.system("a+b>=c;a=2;b<=1");
        Due.answer("rows", x.count(0), 3);
        Due.answer("columns", x.count(1), 5);
        Due.answer("variables", x.count(2), 3);
        Due.answer("count(3)", x.count(3), NONE);
        Due.answer("count(-1)", x.count(-1), NONE);
        Due.answer("count of the greatest", x.count(Integer.MAX_VALUE), NONE);
        LeastSolutions y = Due.system("1=1");
        Due.answer("rows without variables", y.count(0), 1);
        Due.answer("no columns", y.count(1), 0);
        Due.answer("no variables", y.count(2), 0);
    }

    private static void letter() {
        LeastSolutions x = Due.system("z>=b+z+0a;b=q");
        Due.answer("letter(0)", x.letter(0), 'z');
        Due.answer("letter(1)", x.letter(1), 'b');
        Due.answer("letter(2)", x.letter(2), 'a');
        Due.answer("letter(3)", x.letter(3), 'q');
        Due.answer("letter of a slack", x.letter(4), NONE);
        Due.answer("letter(5)", x.letter(5), NONE);
        Due.answer("letter(6)", x.letter(6), NONE);
        Due.answer("letter(-1)", x.letter(-1), NONE);
        Due.answer("letter of the greatest", x.letter(Integer.MAX_VALUE), NONE);
    }

    private static void number() {
        LeastSolutions x = Due.system("2a-3b+7<=4a+b-1;5>=c");
        int[][] due = {{-2, -4, 0, 1, 0, -8}, {0, 0, -1, 0, -1, -5}};
        for (int row = 0; row < 2; row++) {
            for (int column = 0; column < 6; column++) {
                Due.answer("number(" + row + ", " + column + ")", x.number(row, column), due[row][column]);
            }
        }
        int[][] none = {{-1, 0}, {2, 0}, {0, -1}, {0, 6}, {3, 0}, {4, 0}, {Integer.MAX_VALUE, 0},
            {0, Integer.MAX_VALUE}, {Integer.MIN_VALUE, 0}, {0, Integer.MIN_VALUE}};
        for (int[] pair : none) {
            Due.exception("number(" + pair[0] + ", " + pair[1] + ")", IndexOutOfBoundsException.class,
                    () -> x.number(pair[0], pair[1]));
        }
        Due.fault(x, "a=1", 0, NONE);
        Due.answer("B of a shorter row", x.number(0, 1), 1);
        Due.exception("number() behind B", IndexOutOfBoundsException.class, () -> x.number(0, 2));
        Due.exception("number() of a row that is gone", IndexOutOfBoundsException.class, () -> x.number(1, 0));
    }
}
