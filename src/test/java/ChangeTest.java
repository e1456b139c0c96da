/**
 * What a call leaves as it is: all that an object answers afterwards is the same as what a twin
 * answers, which was used in the same way but for that call.
 */
public final class ChangeTest {
    private static final int NONE = LeastSolutions.NONE;

    private interface Call {
        void on(LeastSolutions x);
    }

    /** An object, made anew for each call. */
    private interface Made {
        LeastSolutions twin();
    }

    public static void main(String[] args) {
        whatThrows();
        whatThrowsWithoutSystem();
        whatIsNotPut();
        splitThatIsNone();
        whatIsAsked();
        readWithFault();
        whatReadLeavesOfBefore();
        Due.end("ChangeTest");
    }

    // An object with a system, all lists, a vector, a split, costs, a best one, a fault, and half a text.

    private static LeastSolutions used() {
        LeastSolutions x = worked();
        Due.tell(x, 3, 2, 6);
        Due.answer("split()", x.split(), 0);
        x.cost(0, 3);
        x.cost(1, -2);
        Due.answer("best(9)", x.best(9), -10);
        Due.fault(x, "a==1", 1, 2);
        Due.type(x, "b=");
        return x;
    }

    private static LeastSolutions worked() {
        LeastSolutions x = Due.system("2a+b=c+2");
        Due.answer("work(0, 12)", x.work(0, 12), 2);
        Due.answer("work(1, 11)", x.work(1, 11), 2);
        Due.answer("work(2, 7)", x.work(2, 7), 4);
        return x;
    }

    private static LeastSolutions withoutSystem() {
        LeastSolutions x = new LeastSolutions();
        Due.fault(x, "a+", 1, 2);
        Due.type(x, "b=");
        return x;
    }

    private static LeastSolutions full() {
        LeastSolutions x = worked();
        Due.type(x, "b=4" + " ".repeat(297));
        return x;
    }

    private static void stays(String call, Made made, Call asked) {
        LeastSolutions x = made.twin();
        isThrown(asked, x);
        Due.holds(call + " leaves all as it is", seen(x).equals(seen(made.twin())));
    }

    private static void throwsAndStays(String call, Made made, Call asked) {
        Due.holds(call + " throws", isThrown(asked, made.twin()));
        stays(call, made, asked);
    }

    private static boolean isThrown(Call asked, LeastSolutions x) {
        try {
            asked.on(x);
        } catch (RuntimeException e) {
            return true;
        }
        return false;
    }

    // All that an object answers

    private static String seen(LeastSolutions x) {
        StringBuilder all = new StringBuilder();
        all.append(x.place());
        for (int i = -1; i <= 4; i++) {
            all.append(' ').append(x.count(i)).append(' ').append(x.letter(i));
            all.append(' ').append(x.times(i)).append(' ').append(x.bestAt(i));
        }
        for (int i = -1; i <= 3; i++) {
            for (int column = -1; column <= 4; column++) {
                seenAt(all, x, i, column);
            }
        }
        add(all, x::solvable);
        add(all, x::kernel);
        add(all, x::holds);
        seenByChange(all, x);
        return all.toString();
    }

    private static void seenAt(StringBuilder all, LeastSolutions x, int i, int column) {
        add(all, () -> x.number(i, column));
        add(all, () -> x.kernelAt(i, column));
        for (int what = 0; what <= 2; what++) {
            int list = what;
            add(all, () -> x.at(list, i, column));
        }
    }

    private static void add(StringBuilder all, Due.Call call) {
        try {
            all.append(' ').append(call.answer());
        } catch (RuntimeException e) {
            all.append(' ').append(e.getClass().getSimpleName());
        }
    }

    /** The vector, the bounds of the lists, the costs and the text are not told, but what is made of them is. */
    private static void seenByChange(StringBuilder all, LeastSolutions x) {
        seenSplit(all, x);
        for (int[] vector : new int[][] {{3, 2, 6}, {4, 1, 7}, {4, 2, 8}, {0, 2, 0}}) {
            for (int column = 0; column < 3; column++) {
                int at = column;
                add(all, () -> {
                    x.tell(at, vector[at]);
                    return 0;
                });
            }
            seenSplit(all, x);
        }
        for (int bound = 0; bound <= 16; bound += 4) {
            int most = bound;
            add(all, () -> x.best(most));
            all.append(' ').append(x.bestAt(0)).append(' ').append(x.bestAt(1)).append(' ').append(x.bestAt(2));
        }
        all.append(' ').append(x.type(Due.packed(" 4"), 2));
        all.append(' ').append(x.read()).append(' ').append(x.place()).append(' ').append(x.count(1));
        add(all, () -> x.number(0, 1));
    }

    private static void seenSplit(StringBuilder all, LeastSolutions x) {
        all.append(' ').append(x.split()).append(' ').append(x.times(0)).append(' ').append(x.times(1));
    }

    // What must leave it

    private static void whatThrows() {
        Due.sentence(0, "What throws changes nothing");
        throwsAndStays("number(1, 0)", ChangeTest::used, x -> x.number(1, 0));
        throwsAndStays("number(0, 4)", ChangeTest::used, x -> x.number(0, 4));
        throwsAndStays("kernelAt(2, 0)", ChangeTest::used, x -> x.kernelAt(2, 0));
        throwsAndStays("kernelAt(0, 3)", ChangeTest::used, x -> x.kernelAt(0, 3));
        throwsAndStays("work(-1, 3)", ChangeTest::used, x -> x.work(-1, 3));
        throwsAndStays("work(3, 3)", ChangeTest::used, x -> x.work(3, 3));
        throwsAndStays("work(0, -1)", ChangeTest::used, x -> x.work(0, -1));
        throwsAndStays("work(0, 17)", ChangeTest::used, x -> x.work(0, 17));
        throwsAndStays("work(1, -1)", ChangeTest::used, x -> x.work(1, -1));
        throwsAndStays("work(1, 17)", ChangeTest::used, x -> x.work(1, 17));
        throwsAndStays("work(2, -1)", ChangeTest::used, x -> x.work(2, -1));
        throwsAndStays("work(2, 11)", ChangeTest::used, x -> x.work(2, 11));
        throwsAndStays("at(0, 2, 0)", ChangeTest::used, x -> x.at(0, 2, 0));
        throwsAndStays("at(1, 0, 3)", ChangeTest::used, x -> x.at(1, 0, 3));
        throwsAndStays("at(3, 0, 0)", ChangeTest::used, x -> x.at(3, 0, 0));
        throwsAndStays("tell(-1, 1)", ChangeTest::used, x -> x.tell(-1, 1));
        throwsAndStays("tell(3, 1)", ChangeTest::used, x -> x.tell(3, 1));
        throwsAndStays("tell(0, 100)", ChangeTest::used, x -> x.tell(0, 100));
        throwsAndStays("tell(2, -100)", ChangeTest::used, x -> x.tell(2, -100));
        throwsAndStays("cost(-1, 1)", ChangeTest::used, x -> x.cost(-1, 1));
        throwsAndStays("cost(3, 1)", ChangeTest::used, x -> x.cost(3, 1));
        throwsAndStays("cost(0, 100)", ChangeTest::used, x -> x.cost(0, 100));
        throwsAndStays("cost(1, -100)", ChangeTest::used, x -> x.cost(1, -100));
        throwsAndStays("best(-1)", ChangeTest::used, x -> x.best(-1));
        throwsAndStays("best(17)", ChangeTest::used, x -> x.best(17));
        throwsAndStays("best(0), which finds none", ChangeTest::used, x -> x.best(0));
    }

    private static void whatThrowsWithoutSystem() {
        Due.sentence(0, "What throws changes nothing");
        throwsAndStays("number(0, 0)", ChangeTest::withoutSystem, x -> x.number(0, 0));
        throwsAndStays("solvable()", ChangeTest::withoutSystem, x -> x.solvable());
        throwsAndStays("kernel()", ChangeTest::withoutSystem, x -> x.kernel());
        throwsAndStays("kernelAt(0, 0)", ChangeTest::withoutSystem, x -> x.kernelAt(0, 0));
        throwsAndStays("work(0, 3)", ChangeTest::withoutSystem, x -> x.work(0, 3));
        throwsAndStays("work(1, 3)", ChangeTest::withoutSystem, x -> x.work(1, 3));
        throwsAndStays("work(2, 3)", ChangeTest::withoutSystem, x -> x.work(2, 3));
        throwsAndStays("at(0, 0, 0)", ChangeTest::withoutSystem, x -> x.at(0, 0, 0));
        throwsAndStays("tell(0, 1)", ChangeTest::withoutSystem, x -> x.tell(0, 1));
        throwsAndStays("holds()", ChangeTest::withoutSystem, x -> x.holds());
        throwsAndStays("cost(0, 1)", ChangeTest::withoutSystem, x -> x.cost(0, 1));
        throwsAndStays("best(3)", ChangeTest::withoutSystem, x -> x.best(3));
    }

    private static void whatIsNotPut() {
        Due.sentence(2, "NONE, and nothing is put");
        for (Made made : new Made[] {ChangeTest::used, ChangeTest::withoutSystem, ChangeTest::full}) {
            stays("type(.., 0)", made, x -> x.type('a', 0));
            stays("type(.., 9)", made, x -> x.type(Due.packed("aaaaaaaa"), 9));
            stays("type(.., -1)", made, x -> x.type('a', -1));
            stays("type() of 31 as the last one", made, x -> x.type(0x61616161611fL, 6));
            stays("type() of 127 as the first one", made, x -> x.type(0x7f6161616161L, 6));
        }
        stays("type(.., 1) to a full text", ChangeTest::full, x -> x.type('a', 1));
        stays("type(.., 8) to a full text", ChangeTest::full, x -> x.type(Due.packed("aaaaaaaa"), 8));
    }

    private static void splitThatIsNone() {
        Due.sentence(15, "NONE, and nothing changes");
        for (int[] vector : new int[][] {{3, 2, 5}, {1, -1, -1}, {4, 1, 7}, {4, 2, 8}, {0, 0, 0}}) {
            Made made = () -> {
                LeastSolutions x = used();
                Due.tell(x, vector);
                return x;
            };
            Due.answer("split() of " + java.util.Arrays.toString(vector), made.twin().split(), NONE);
            stays("split() of " + java.util.Arrays.toString(vector), made, x -> x.split());
        }
        stays("split() without a system", ChangeTest::withoutSystem, x -> x.split());
        stays("split() without lists", () -> Due.system("2a+b=c+2"), x -> x.split());
    }

    private static void whatIsAsked() {
        Due.sentence(0, "Nothing is promised beyond the answers and state changes described above");
        for (Made made : new Made[] {ChangeTest::used, ChangeTest::withoutSystem, ChangeTest::full}) {
            stays("place()", made, x -> x.place());
            stays("count()", made, x -> x.count(1));
            stays("letter()", made, x -> x.letter(0));
            stays("number()", made, x -> x.number(0, 0));
            stays("solvable()", made, x -> x.solvable());
            stays("kernel()", made, x -> x.kernel());
            stays("kernelAt()", made, x -> x.kernelAt(0, 0));
            stays("at()", made, x -> x.at(1, 0, 0));
            stays("holds()", made, x -> x.holds());
            stays("times()", made, x -> x.times(0));
            stays("bestAt()", made, x -> x.bestAt(0));
        }
    }

    /** The faults have the place of the fault before, and the text is typed again. */
    private static void readWithFault() {
        Due.sentence(3, "or its fault (the system there was stays)");
        for (String wrong : new String[] {"==4", "300", " !"}) {
            stays("read() of 'b=" + wrong + "'", ChangeTest::used, x -> {
                Due.type(x, wrong);
                Due.holds("read() is a fault", x.read() > 0);
                Due.fault(x, "a==1", 1, 2);
                Due.type(x, "b=");
            });
        }
    }

    private static final String[] SYSTEMS = {"2a+b=c+2", "a<=1;a>=0;b<=3;a+b>=1", "1=1", "20a-19b=17c+3d;a+b+c=d",
        "1<=2;2>=1", "x=y", "a+b+c+d+e+f=3", "3b-5a=2z", "0q=0", "a=1;a=1;a=1;a=1", "u+v<=2", "1=2", "2a=3b+1"};

    /** An object that was used for other systems answers as a new one does. */
    private static void whatReadLeavesOfBefore() {
        Due.sentence(3, "The text becomes the system .. With 0 all lists are gone");
        for (int first = 0; first < SYSTEMS.length; first++) {
            LeastSolutions x = used();
            Due.type(x, "1;;");
            Due.holds("read() is a fault", x.read() == 1);
            for (int step = 1; step <= 3; step++) {
                use(x);
                Due.fault(x, SYSTEMS[(first + step * step) % SYSTEMS.length], 0, NONE);
            }
            String text = SYSTEMS[first];
            use(x);
            Due.fault(x, text, 0, NONE);
            Due.holds("an object used before, with '" + text + "'", seen(x).equals(seen(Due.system(text))));
        }
    }

    private static void use(LeastSolutions x) {
        for (int what = 0; what <= 2; what++) {
            x.work(what, 6);
        }
        for (int column = 0; column < x.count(1); column++) {
            x.cost(column, 7 - 5 * column);
            x.tell(column, 1 + column % 2);
        }
        x.split();
        isThrown(y -> y.best(8), x);
    }
}
