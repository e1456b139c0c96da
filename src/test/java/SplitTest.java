/** Promises 13 to 16: tell, holds, split, times. */
public final class SplitTest {
    private static final int NONE = LeastSolutions.NONE;

    public static void main(String[] args) {
        tell();
        holds();
        split();
        splitIsGreedy();
        splitIsRefused();
        splitWithoutAList();
        splitWithoutColumns();
        times();
        timesAreGone();
        Due.end("SplitTest");
    }

    private static void tell() {
        LeastSolutions none = new LeastSolutions();
        Due.exception("tell() without a system", IndexOutOfBoundsException.class, () -> told(none, 0, 1));
        Due.exception("both wrong", IndexOutOfBoundsException.class, () -> told(none, 0, 100));
        LeastSolutions x = Due.system("x+y<=198");
        for (int column : new int[] {-1, 3, 5, 6, Integer.MIN_VALUE, Integer.MAX_VALUE}) {
            Due.exception("tell(" + column + ", 1)", IndexOutOfBoundsException.class, () -> told(x, column, 1));
            Due.exception("tell(" + column + ", 100)", IndexOutOfBoundsException.class, () -> told(x, column, 100));
        }
        Due.tell(x, 99, 99);
        for (int value : new int[] {-100, 100, Integer.MIN_VALUE, Integer.MAX_VALUE}) {
            Due.exception("tell(0, " + value + ")", IllegalArgumentException.class, () -> told(x, 0, value));
        }
        Due.answer("99 can be told, and what throws changes nothing", x.holds(), 5);
        LeastSolutions y = Due.system("x-y=-198");
        Due.tell(y, -99, 99);
        Due.answer("-99 can be told", y.holds(), 1);
    }

    private static int told(LeastSolutions x, int column, int value) {
        x.tell(column, value);
        return 0;
    }

    private static void holds() {
        LeastSolutions none = new LeastSolutions();
        Due.exception("holds() without a system", IllegalStateException.class, none::holds);
        LeastSolutions x = Due.system("x+2y=3");
        holds(x, 6, 0, 0);
        holds(x, 5, 1, 1);
        holds(x, 1, 5, -1);
        holds(x, 2, 2, -1);
        holds(x, 0, -1, 1);
        holds(x, 0, 1, -1);
        holds(x, 4, 2, 2);
        LeastSolutions y = Due.system("x=2y;x+z>=y;3x=6y");
        holds(y, 7, 0, 0, 0, 0);
        holds(y, 7, 2, 1, 0, 1);
        holds(y, 3, 2, 1, -1, 0);
        holds(y, 3, -2, -1, 3, 2);
        holds(y, 4, 2, 1, 0, 0);
        holds(y, 0, 2, 0, 0, -2);
        LeastSolutions z = Due.system("x=1;y=1;x+y=2;x-y=0");
        holds(z, 5, 1, 1);
        holds(z, 6, 0, 0);
        holds(z, 4, 2, 2);
        Due.answer("no columns, a solution", Due.system("1=1").holds(), 7);
        Due.answer("no columns, no solution", Due.system("1=2").holds(), 6);
    }

    private static void holds(LeastSolutions x, int want, int... numbers) {
        Due.tell(x, numbers);
        Due.answer("holds() of " + java.util.Arrays.toString(numbers), x.holds(), want);
    }

    private static void split() {
        LeastSolutions x = Due.system("2a+b=c+2");
        Due.list(x, 0, 16, "0,1,1 1,0,2");
        Due.list(x, 1, 16, "1,0,0 0,2,0");
        Due.tell(x, 3, 2, 6);
        Due.answer("split()", x.split(), 0);
        Due.answer("times(0)", x.times(0), 2);
        Due.answer("times(1)", x.times(1), 2);
        Due.answer("the vector stays", x.holds(), 5);
        Due.answer("split() once more", x.split(), 0);
        Due.answer("times(1) once more", x.times(1), 2);
        Due.tell(x, 0, 5, 3);
        Due.answer("split() by the second one", x.split(), 1);
        Due.answer("times(0)", x.times(0), 3);
        Due.answer("times(1)", x.times(1), 0);
        Due.tell(x, 0, 2, 0);
        Due.answer("split() of a least one", x.split(), 1);
        Due.answer("times(0)", x.times(0), 0);
    }

    private static void splitIsGreedy() {
        LeastSolutions x = Due.system("a+b=c+d");
        Due.list(x, 0, 16, "0,1,0,1 0,1,1,0 1,0,0,1 1,0,1,0");
        x.work(1, 16);
        Due.tell(x, 4, 4, 5, 3);
        Due.answer("split() of a kernel vector", x.split(), 0);
        int[] due = {3, 1, 0, 4};
        for (int i = 0; i < 4; i++) {
            Due.answer("times(" + i + ")", x.times(i), due[i]);
        }
    }

    private static void splitIsRefused() {
        LeastSolutions none = new LeastSolutions();
        Due.answer("split() without a system", none.split(), NONE);
        LeastSolutions x = Due.system("x=y+1");
        Due.tell(x, 2, 1);
        Due.answer("without both lists", x.split(), NONE);
        x.work(1, 16);
        Due.answer("without summands", x.split(), NONE);
        x.work(2, 10);
        Due.answer("without summands, with signed ones", x.split(), NONE);
        Due.fault(x, "x=y+1", 0, NONE);
        Due.tell(x, 2, 1);
        x.work(0, 3);
        Due.answer("without least ones", x.split(), NONE);
        x.work(1, 16);
        Due.answer("with both", x.split(), 0);
        Due.tell(x, 3, 2);
        Due.answer("beyond the bound of the summands", x.split(), NONE);
        Due.answer("what is NONE changes nothing", x.times(0), 1);
        x.work(0, 16);
        x.work(1, 3);
        Due.answer("beyond the bound of the least ones", x.split(), NONE);
        x.work(1, 5);
        Due.answer("just the bound", x.split(), 0);
        Due.answer("times(0)", x.times(0), 2);
        Due.tell(x, 3, 1);
        Due.answer("no solution", x.split(), NONE);
        Due.tell(x, 1, 1);
        Due.answer("a kernel vector that is no solution", x.split(), NONE);
        Due.tell(x, 0, -1);
        Due.answer("a number below 0", x.split(), NONE);
        Due.answer("what is NONE changes nothing", x.times(0), 2);
    }

    private static void splitWithoutAList() {
        for (int other = 0; other <= 1; other++) {
            LeastSolutions x = Due.system("x=y");
            x.work(other, 16);
            Due.answer("split() of 0 with the list " + other + " alone", x.split(), NONE);
            x.work(1 - other, 16);
            Due.answer("split() of 0", x.split(), 0);
            Due.fault(x, "x=y", 0, NONE);
            Due.tell(x, 3, 3);
            x.work(other, 16);
            Due.answer("split() with a list of before", x.split(), NONE);
        }
        LeastSolutions y = Due.system("a+b+c+d+e+f=16");
        y.work(0, 16);
        y.work(1, 15);
        y.work(1, 16);
        y.tell(3, 16);
        Due.answer("split() with a list that is refused", y.split(), NONE);
        Due.answer("times() with a list that is refused", y.times(0), NONE);
    }

    private static void splitWithoutColumns() {
        LeastSolutions x = Due.system("1=1");
        x.work(0, 3);
        x.work(1, 3);
        Due.answer("split() of no columns", x.split(), 0);
        Due.answer("times() of no summands", x.times(0), NONE);
        LeastSolutions y = Due.system("1=2");
        y.work(0, 3);
        y.work(1, 3);
        Due.answer("split() of no solution", y.split(), NONE);
    }

    private static void times() {
        LeastSolutions x = Due.system("x=y");
        Due.answer("times() before all", x.times(0), NONE);
        x.work(0, 9);
        x.work(1, 9);
        Due.answer("times() before split()", x.times(0), NONE);
        x.split();
        Due.answer("times() of 0", x.times(0), 0);
        for (int i : new int[] {-1, 1, 2000, Integer.MIN_VALUE, Integer.MAX_VALUE}) {
            Due.answer("times(" + i + ")", x.times(i), NONE);
        }
        Due.answer("times() of a new object", new LeastSolutions().times(0), NONE);
    }

    private static void timesAreGone() {
        LeastSolutions x = Due.system("x=y");
        for (int what = 0; what <= 1; what++) {
            x.work(0, 9);
            x.work(1, 9);
            Due.tell(x, 4, 4);
            Due.answer("split()", x.split(), 0);
            x.work(2, 9);
            Due.answer("times() after the signed ones", x.times(0), 4);
            x.work(what, 9);
            Due.answer("times() after a list is worked out anew", x.times(0), NONE);
            x.split();
            Due.answer("times() after the next split()", x.times(0), 4);
        }
    }
}
