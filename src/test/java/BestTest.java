import java.util.NoSuchElementException;

/** Promises 17 to 19: cost, best, bestAt. */
public final class BestTest {
    private static final int NONE = LeastSolutions.NONE;

    public static void main(String[] args) {
        cost();
        wrongCalls();
        best();
        bestByColumns();
        noneFound();
        withoutColumns();
        bestAt();
        Due.end("BestTest");
    }

    private static void cost() {
        LeastSolutions none = new LeastSolutions();
        Due.exception("cost() without a system", IndexOutOfBoundsException.class, () -> costs(none, 0, 1));
        LeastSolutions x = Due.system("x+y<=4");
        x.cost(0, -99);
        x.cost(2, 99);
        for (int column : new int[] {-1, 3, 5, 6, Integer.MIN_VALUE, Integer.MAX_VALUE}) {
            Due.exception("cost(" + column + ", 1)", IndexOutOfBoundsException.class, () -> costs(x, column, 1));
            Due.exception("cost(" + column + ", 100)", IndexOutOfBoundsException.class, () -> costs(x, column, 100));
        }
        for (int value : new int[] {-100, 100, Integer.MIN_VALUE, Integer.MAX_VALUE}) {
            Due.exception("cost(0, " + value + ")", IllegalArgumentException.class, () -> costs(x, 0, value));
        }
        Due.answer("what throws changes nothing", x.best(16), -396);
        x.cost(0, 0);
        Due.answer("a slack costs, too", x.best(16), 0);
        x.cost(0, 99);
        x.cost(1, 98);
        Due.answer("a slack that is dear", x.best(16), 392);
        x.cost(2, 97);
        Due.answer("a slack that is cheap", x.best(16), 388);
    }

    private static int costs(LeastSolutions x, int column, int value) {
        x.cost(column, value);
        return 0;
    }

    private static void wrongCalls() {
        LeastSolutions none = new LeastSolutions();
        LeastSolutions x = Due.system("x=2");
        for (int bound : new int[] {-1, 17, Integer.MIN_VALUE, Integer.MAX_VALUE}) {
            Due.exception("best(" + bound + ")", IllegalArgumentException.class, () -> x.best(bound));
            Due.exception("best(" + bound + ") without a system", IllegalArgumentException.class,
                    () -> none.best(bound));
        }
        Due.exception("best(0) without a system", IllegalStateException.class, () -> none.best(0));
        Due.exception("best(1)", NoSuchElementException.class, () -> x.best(1));
        Due.answer("bestAt() after what throws", x.bestAt(0), NONE);
        Due.answer("best(2)", x.best(2), 0);
        Due.answer("bestAt()", x.bestAt(0), 2);
    }

    private static void best() {
        LeastSolutions x = Due.system("a+2b+3c<=8;a>=b");
        x.cost(0, -2);
        x.cost(1, -5);
        x.cost(2, -1);
        Due.answer("best(16)", x.best(16), -18);
        bestIs(x, 4, 2, 0, 0, 2);
        Due.answer("best(7)", x.best(7), -16);
        bestIs(x, 3, 2, 0, 1, 1);
        x.cost(0, 3);
        bestIs(x, 3, 2, 0, 1, 1);
        Due.answer("best(16) by other costs", x.best(16), -4);
        LeastSolutions y = Due.system("3x-5y=2z");
        y.cost(0, -3);
        y.cost(1, 7);
        Due.answer("best(16) beyond the least ones", y.best(16), -18);
        bestIs(y, 6, 0, 9);
        Due.answer("best(0)", y.best(0), 0);
        bestIs(y, 0, 0, 0);
    }

    private static void bestIs(LeastSolutions x, int... due) {
        for (int column = 0; column < due.length; column++) {
            Due.answer("bestAt(" + column + ")", x.bestAt(column), due[column]);
        }
        Due.answer("bestAt() behind the columns", x.bestAt(due.length), NONE);
    }

    private static void bestByColumns() {
        LeastSolutions x = Due.system("a+b+c+d+e+f=16");
        Due.answer("best(16)", x.best(16), 0);
        bestIs(x, 0, 0, 0, 0, 0, 16);
        LeastSolutions y = Due.system("a+b=3+c");
        Due.answer("the first by columns is greater than others", y.best(16), 0);
        bestIs(y, 0, 3, 0);
        LeastSolutions z = Due.system("2a+b=6");
        z.cost(0, 2);
        z.cost(1, 1);
        Due.answer("all cost as little, the least size comes last", z.best(16), 6);
        bestIs(z, 0, 6);
        Due.answer("a size that shuts the first ones out", z.best(4), 6);
        bestIs(z, 2, 2);
    }

    private static void noneFound() {
        LeastSolutions x = Due.system("x+y=5");
        x.cost(0, 1);
        Due.exception("best(4)", NoSuchElementException.class, () -> x.best(4));
        Due.answer("bestAt() before one is found", x.bestAt(0), NONE);
        Due.answer("best(5)", x.best(5), 0);
        Due.exception("best(4)", NoSuchElementException.class, () -> x.best(4));
        Due.exception("best(17)", IllegalArgumentException.class, () -> x.best(17));
        bestIs(x, 0, 5);
        Due.exception("no whole solution", NoSuchElementException.class, () -> Due.system("2x=5").best(16));
        Due.exception("none that is not below 0", NoSuchElementException.class, () -> Due.system("x=-1").best(16));
    }

    private static void withoutColumns() {
        LeastSolutions x = Due.system("1=1");
        Due.answer("best() of no columns", x.best(16), 0);
        Due.answer("bestAt() of no columns", x.bestAt(0), NONE);
        Due.exception("best() of no columns and no solution", NoSuchElementException.class,
                () -> Due.system("1=2").best(16));
    }

    private static void bestAt() {
        Due.answer("bestAt() of a new object", new LeastSolutions().bestAt(0), NONE);
        LeastSolutions x = Due.system("x+y=2");
        Due.answer("bestAt() before best()", x.bestAt(0), NONE);
        x.best(2);
        for (int column : new int[] {-1, 2, 6, Integer.MIN_VALUE, Integer.MAX_VALUE}) {
            Due.answer("bestAt(" + column + ")", x.bestAt(column), NONE);
        }
        Due.answer("bestAt(1)", x.bestAt(1), 2);
        Due.fault(x, "x+y=2", 0, NONE);
        Due.answer("bestAt() after read()", x.bestAt(1), NONE);
    }
}
