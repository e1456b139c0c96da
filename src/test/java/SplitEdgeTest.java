import java.util.NoSuchElementException;

/** Promises 13 to 19: each sentence of the document that names a boundary case. */
public final class SplitEdgeTest {
    private static final int NONE = LeastSolutions.NONE;
    private static final int[] FAR = {Integer.MIN_VALUE, Integer.MIN_VALUE + 1, -1000, -1, 2000, 1 << 30,
        Integer.MAX_VALUE - 1, Integer.MAX_VALUE};

    public static void main(String[] args) {
        tell();
        holds();
        split();
        splitIsNone();
        times();
        cost();
        best();
        wrongBest();
        bestAt();
        Due.end("SplitEdgeTest");
    }

    private static LeastSolutions worked(String text, int summandsBound, int leastBound) {
        LeastSolutions x = Due.system(text);
        Due.holds("work()", x.work(0, summandsBound) != NONE && x.work(1, leastBound) != NONE);
        return x;
    }

    // Promises 13 and 14

    private static int told(LeastSolutions x, int column, int value) {
        x.tell(column, value);
        return 0;
    }

    private static void tell() {
        Due.sentence(13, "IndexOutOfBoundsException when there is no such column");
        LeastSolutions none = new LeastSolutions();
        LeastSolutions empty = Due.system("1=1");
        LeastSolutions x = Due.system("a<=1;b=1");
        LeastSolutions full = Due.system("a+b+c=d+e+f");
        for (int value : new int[] {0, 99, -100, 100, Integer.MAX_VALUE}) {
            for (int column = -1; column <= 6; column++) {
                int at = column;
                Due.noIndex("tell() without a system", () -> told(none, at, value));
                Due.noIndex("tell() without columns", () -> told(empty, at, value));
                if (column < 0 || column > 2) {
                    Due.noIndex("tell(" + column + ", " + value + ")", () -> told(x, at, value));
                }
            }
            Due.noIndex("tell(6, " + value + ")", () -> told(full, 6, value));
            for (int far : FAR) {
                Due.noIndex("tell(" + far + ", " + value + ")", () -> told(full, far, value));
            }
        }
        Due.sentence(13, "IllegalArgumentException when it is not -99 .. 99");
        for (int column = 0; column < 6; column++) {
            int at = column;
            for (int value : new int[] {-100, 100, 128, 256, Integer.MIN_VALUE, Integer.MAX_VALUE}) {
                Due.noArgument("tell(" + column + ", " + value + ")", () -> told(full, at, value));
            }
            full.tell(column, column < 3 ? 99 : -99);
        }
        Due.answer("all are told", full.holds(), 0);
        for (int column = 3; column < 6; column++) {
            full.tell(column, 99);
        }
        Due.answer("99 can be told", full.holds(), 7);
        for (int column = 0; column < 6; column++) {
            full.tell(column, -99);
        }
        Due.answer("-99 can be told", full.holds(), 3);
    }

    private static void holds(LeastSolutions x, int due, int... numbers) {
        Due.tell(x, numbers);
        Due.answer("holds() of " + java.util.Arrays.toString(numbers), x.holds(), due);
    }

    private static void holds() {
        Due.sentence(14, "1, if it is a solution; 2, if it is a kernel vector; 4, if no number is below 0");
        LeastSolutions x = Due.system("a-2b=1");
        holds(x, 6, 0, 0);
        holds(x, 5, 1, 0);
        holds(x, 1, -1, -1);
        holds(x, 2, -2, -1);
        holds(x, 6, 2, 1);
        holds(x, 4, 1, 1);
        holds(x, 0, 0, -1);
        holds(x, 0, -1, 0);
        LeastSolutions y = Due.system("a<=1;a+b=0;b>=-1");
        holds(y, 1, 1, -1, 0, 0);
        holds(y, 6, 0, 0, 0, 0);
        holds(y, 5, 0, 0, 1, 1);
        holds(y, 0, 1, -1, 0, 1);
        holds(y, 2, -1, 1, 1, 1);
        Due.answer("without columns, a solution", Due.system("0=0").holds(), 7);
        Due.answer("without columns, no solution", Due.system("0=1").holds(), 6);
        LeastSolutions z = Due.system("20a+20b+20c+20d+20e+20f=0");
        holds(z, 4, 99, 99, 99, 99, 99, 99);
        holds(z, 3, 99, -99, 99, -99, 99, -99);
        Due.sentence(14, "IllegalStateException when there is no system");
        LeastSolutions none = new LeastSolutions();
        Due.noState("holds()", none::holds);
        Due.fault(none, "a", 1, 1);
        Due.noState("holds() after a fault", none::holds);
    }

    // Promises 15 and 16

    private static void splits(LeastSolutions x, int due, int... times) {
        Due.answer("split()", x.split(), due);
        for (int i = 0; i < times.length; i++) {
            Due.answer("times(" + i + ")", x.times(i), times[i]);
        }
        Due.answer("times() behind the summands", x.times(times.length), NONE);
    }

    private static void split() {
        Due.sentence(15, "the first vector of LEAST that is at most as great in each column");
        LeastSolutions x = worked("2a+b=c+2", 16, 16);
        Due.tell(x, 1, 2, 2);
        splits(x, 0, 2, 0);
        Due.tell(x, 0, 2, 0);
        splits(x, 1, 0, 0);
        Due.tell(x, 1, 0, 0);
        splits(x, 0, 0, 0);
        LeastSolutions zero = worked("a=b", 16, 16);
        splits(zero, 0, 0);
        LeastSolutions empty = worked("1=1", 0, 0);
        splits(empty, 0);
        Due.sentence(15, "and then SUMMANDS, each in the order of the list, as often as it goes");
        LeastSolutions y = worked("a+b=c+d", 16, 16);
        Due.tell(y, 1, 1, 1, 1);
        splits(y, 0, 1, 0, 0, 1);
        Due.tell(y, 4, 4, 5, 3);
        splits(y, 0, 3, 1, 0, 4);
        LeastSolutions most = worked("0a=0", 16, 16);
        Due.tell(most, 16);
        splits(most, 0, 16);
        Due.tell(most, 5);
        splits(most, 0, 5);
        // What the least one has taken is not there for the summands.
        LeastSolutions rest = worked("a+b=c+1", 16, 16);
        Due.tell(rest, 1, 1, 1);
        splits(rest, 0, 0, 1);
        LeastSolutions none = worked("a=3", 16, 16);
        Due.tell(none, 3);
        splits(none, 0);
        Due.sentence(15, "(the vector that is told stays)");
        Due.answer("holds() after split()", y.holds(), 7);
        splits(y, 0, 3, 1, 0, 4);
        y.tell(0, 3);
        y.tell(2, 4);
        splits(y, 0, 3, 1, 0, 3);
    }

    private static void splitIsNone() {
        LeastSolutions x = worked("a=b+1", 9, 9);
        Due.tell(x, 3, 2);
        splits(x, 0, 2);
        Due.sentence(15, "NONE, and nothing changes, when the vector is no solution");
        splitIsNone(x, 0, 0);
        splitIsNone(x, 2, 2);
        splitIsNone(x, 3, 1);
        Due.sentence(15, "NONE, and nothing changes, when .. has a number below 0");
        splitIsNone(x, 0, -1);
        splitIsNone(x, -1, -2);
        Due.sentence(15, "or is of a size beyond the bound of one of both lists");
        splitIsNone(x, 6, 5);
        splitIsNone(x, 99, 98);
        Due.tell(x, 5, 4);
        splits(x, 0, 4);
        LeastSolutions y = worked("a=b+1", 3, 16);
        splitIs(y, 0, 2, 1);
        splitIs(y, NONE, 3, 2);
        LeastSolutions z = worked("a=b+1", 16, 3);
        splitIs(z, 0, 2, 1);
        splitIs(z, NONE, 3, 2);
        LeastSolutions least = worked("a=b", 0, 0);
        splitIs(least, 0, 0, 0);
        splitIs(least, NONE, 1, 1);
        Due.sentence(15, "or one of them is not worked out");
        Due.answer("split() without a system", new LeastSolutions().split(), NONE);
        for (int other = 0; other <= 1; other++) {
            LeastSolutions one = Due.system("a=b");
            Due.answer("split() with no list", one.split(), NONE);
            one.work(2, 9);
            one.work(other, 9);
            Due.answer("split() with one list", one.split(), NONE);
            one.work(1 - other, 9);
            Due.answer("split() with both", one.split(), 0);
            Due.fault(one, "a=b", 0, NONE);
            one.work(other, 9);
            Due.answer("split() with a list of the system before", one.split(), NONE);
        }
        splitWhenRefused();
    }

    private static void splitIs(LeastSolutions x, int due, int... numbers) {
        Due.tell(x, numbers);
        Due.answer("split() of " + java.util.Arrays.toString(numbers), x.split(), due);
    }

    private static void splitIsNone(LeastSolutions x, int... numbers) {
        splitIs(x, NONE, numbers);
        Due.answer("times(0) of the split() before", x.times(0), 2);
    }

    private static void splitWhenRefused() {
        LeastSolutions x = worked("a+b+c+d+2e=15f", 9, 9);
        Due.answer("split()", x.split(), 0);
        Due.answer("work() that is refused", x.work(0, 16), NONE);
        Due.answer("split() with summands that are refused", x.split(), NONE);
        x.work(0, 9);
        Due.answer("split()", x.split(), 0);
        LeastSolutions y = worked("a+b+2c+2d+3e+4f=21", 16, 6);
        Due.tell(y, 1, 0, 0, 0, 0, 5);
        Due.answer("split()", y.split(), 4);
        Due.answer("work() that is refused", y.work(1, 16), NONE);
        Due.answer("split() with least ones that are refused", y.split(), NONE);
        y.work(1, 15);
        Due.answer("split()", y.split(), 4);
    }

    private static void times() {
        Due.sentence(16, "in the latest split() that was not NONE");
        LeastSolutions x = worked("a=b", 9, 9);
        splitIs(x, 0, 4, 4);
        splitIs(x, 0, 3, 3);
        splitIs(x, NONE, 3, 2);
        splitIs(x, NONE, 5, 5);
        Due.answer("times(0)", x.times(0), 3);
        x.tell(1, 7);
        x.cost(0, 1);
        x.best(3);
        x.work(2, 5);
        Due.answer("times(0) after calls that are no split()", x.times(0), 3);
        Due.sentence(16, "NONE when there was none since the lists 0 and 1 were worked out");
        Due.answer("times(0) of a new object", new LeastSolutions().times(0), NONE);
        LeastSolutions y = Due.system("a=b");
        Due.answer("times(0) without lists", y.times(0), NONE);
        y.work(0, 9);
        Due.answer("times(0) with one list", y.times(0), NONE);
        y.work(1, 9);
        Due.answer("times(0) before split()", y.times(0), NONE);
        for (int what = 0; what <= 1; what++) {
            splitIs(y, 0, 2, 2);
            Due.answer("times(0)", y.times(0), 2);
            y.work(what, 9);
            Due.answer("times(0) after work(" + what + ", 9)", y.times(0), NONE);
        }
        splitIs(y, 0, 2, 2);
        Due.fault(y, "a=b", 0, NONE);
        Due.answer("times(0) after read()", y.times(0), NONE);
        y.work(0, 9);
        y.work(1, 9);
        Due.answer("times(0) after read() and work()", y.times(0), NONE);
        Due.sentence(16, "or there is no such vector");
        LeastSolutions z = worked("a+b=c+d", 9, 9);
        splits(z, 0, 0, 0, 0, 0);
        for (int far : FAR) {
            Due.answer("times(" + far + ")", z.times(far), NONE);
        }
        LeastSolutions refused = worked("a+b+c+d+2e=15f", 9, 9);
        splits(refused, 0, 0, 0, 0, 0);
        refused.work(0, 16);
        Due.answer("times(0) of summands that are refused", refused.times(0), NONE);
    }

    // Promises 17 to 19

    private static int costs(LeastSolutions x, int column, int value) {
        x.cost(column, value);
        return 0;
    }

    private static void cost() {
        Due.sentence(17, "IndexOutOfBoundsException when there is no such column");
        LeastSolutions none = new LeastSolutions();
        LeastSolutions empty = Due.system("1=1");
        LeastSolutions full = Due.system("a+b+c=d+e+f");
        for (int value : new int[] {0, 99, -100, 100, Integer.MAX_VALUE}) {
            for (int column = -1; column <= 6; column++) {
                int at = column;
                Due.noIndex("cost() without a system", () -> costs(none, at, value));
                Due.noIndex("cost() without columns", () -> costs(empty, at, value));
            }
            Due.noIndex("cost(6, " + value + ")", () -> costs(full, 6, value));
            for (int far : FAR) {
                Due.noIndex("cost(" + far + ", " + value + ")", () -> costs(full, far, value));
            }
        }
        Due.sentence(17, "IllegalArgumentException when it is not -99 .. 99");
        for (int column = 0; column < 6; column++) {
            int at = column;
            for (int value : new int[] {-100, 100, 128, 256, Integer.MIN_VALUE, Integer.MAX_VALUE}) {
                Due.noArgument("cost(" + column + ", " + value + ")", () -> costs(full, at, value));
            }
            full.cost(column, -99);
        }
        Due.answer("-99 is the least cost", full.best(16), -99 * 16);
        LeastSolutions x = Due.system("a+b<=16");
        for (int column = 0; column < 3; column++) {
            x.cost(column, 99);
        }
        Due.answer("99 is the greatest cost, a slack costs, too", x.best(16), 99 * 16);
    }

    private static void bestIs(LeastSolutions x, int bound, int due, int... numbers) {
        Due.answer("best(" + bound + ")", x.best(bound), due);
        for (int column = 0; column < numbers.length; column++) {
            Due.answer("bestAt(" + column + ") of best(" + bound + ")", x.bestAt(column), numbers[column]);
        }
        Due.answer("bestAt() behind the columns", x.bestAt(numbers.length), NONE);
    }

    private static void best() {
        Due.sentence(18, "the cheapest solution without a number below 0, of size at most L");
        LeastSolutions x = Due.system("a=b+1");
        x.cost(0, -1);
        bestIs(x, 1, -1, 1, 0);
        bestIs(x, 2, -1, 1, 0);
        bestIs(x, 3, -2, 2, 1);
        bestIs(x, 15, -8, 8, 7);
        bestIs(x, 16, -8, 8, 7);
        LeastSolutions y = Due.system("0a=0");
        bestIs(y, 0, 0, 0);
        y.cost(0, -99);
        bestIs(y, 0, 0, 0);
        bestIs(y, 16, -1584, 16);
        y.cost(0, 99);
        bestIs(y, 16, 0, 0);
        LeastSolutions z = Due.system("a+b=0");
        z.cost(0, -99);
        z.cost(1, 98);
        bestIs(z, 16, 0, 0, 0);
        bestIs(Due.system("1=1"), 0, 0);
    }

    private static void none(LeastSolutions x, int bound) {
        Due.exception("best(" + bound + ")", NoSuchElementException.class, () -> x.best(bound));
    }

    private static void wrongBest() {
        LeastSolutions x = Due.system("a=16");
        LeastSolutions without = new LeastSolutions();
        Due.sentence(18, "IllegalArgumentException when L is not 0 .. 16");
        for (int bound : new int[] {-1, 17, 18, 256, Integer.MIN_VALUE, Integer.MAX_VALUE}) {
            Due.noArgument("best(" + bound + ")", () -> x.best(bound));
            Due.noArgument("best(" + bound + ") without a system", () -> without.best(bound));
        }
        Due.sentence(18, "IllegalStateException when there is no system");
        for (int bound = 0; bound <= 16; bound++) {
            int most = bound;
            Due.noState("best(" + bound + ")", () -> without.best(most));
        }
        Due.fault(without, "a=", 1, 2);
        Due.noState("best(16) after a fault", () -> without.best(16));
        Due.sentence(18, "NoSuchElementException when there is no such solution");
        none(x, 0);
        none(x, 15);
        bestIs(x, 16, 0, 16);
        none(x, 15);
        none(Due.system("a=17"), 16);
        none(Due.system("a=-1"), 16);
        none(Due.system("2a=3"), 16);
        none(Due.system("a=b+1"), 0);
        none(Due.system("1=2"), 16);
        none(Due.system("a+b<=-1"), 16);
    }

    private static void bestAt() {
        Due.sentence(19, "of those that cost as little the first one by columns (as in lists, whatever their sizes)");
        LeastSolutions x = Due.system("2a+b=6");
        bestIs(x, 16, 0, 0, 6);
        bestIs(x, 5, 0, 1, 4);
        bestIs(x, 4, 0, 2, 2);
        bestIs(x, 3, 0, 3, 0);
        x.cost(0, 2);
        x.cost(1, 1);
        bestIs(x, 16, 6, 0, 6);
        x.cost(0, 1);
        bestIs(x, 16, 3, 3, 0);
        LeastSolutions y = Due.system("a+b=c+d+1");
        y.cost(0, 1);
        y.cost(1, 1);
        y.cost(2, -1);
        y.cost(3, -1);
        bestIs(y, 16, 1, 0, 1, 0, 0);
        y.cost(3, -2);
        bestIs(y, 16, -6, 0, 8, 0, 7);
        Due.sentence(19, "NONE when there is none such");
        for (int far : FAR) {
            Due.answer("bestAt(" + far + ")", y.bestAt(far), NONE);
        }
        for (int column = 4; column <= 7; column++) {
            Due.answer("bestAt(" + column + ")", y.bestAt(column), NONE);
        }
        bestIsGone();
    }

    private static void bestIsGone() {
        Due.sentence(19, "or best() found none since read()");
        Due.answer("bestAt(0) of a new object", new LeastSolutions().bestAt(0), NONE);
        LeastSolutions x = Due.system("a=2");
        Due.answer("bestAt(0) before best()", x.bestAt(0), NONE);
        none(x, 1);
        Due.answer("bestAt(0) when none was found", x.bestAt(0), NONE);
        bestIs(x, 2, 0, 2);
        Due.fault(x, "a+b=3", 0, NONE);
        Due.answer("bestAt(0) after read()", x.bestAt(0), NONE);
        Due.answer("bestAt(1) after read()", x.bestAt(1), NONE);
        none(x, 2);
        Due.answer("bestAt(0) when none was found since read()", x.bestAt(0), NONE);
        Due.sentence(19, "(one that throws changes nothing)");
        bestIs(x, 3, 0, 0, 3);
        none(x, 2);
        Due.noArgument("best(17)", () -> x.best(17));
        Due.noArgument("best(-1)", () -> x.best(-1));
        Due.answer("bestAt(0)", x.bestAt(0), 0);
        Due.answer("bestAt(1)", x.bestAt(1), 3);
        x.cost(1, 5);
        x.tell(1, 5);
        Due.answer("bestAt(1) after another cost", x.bestAt(1), 3);
    }
}
