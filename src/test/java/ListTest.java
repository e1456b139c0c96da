/** Promises 11 and 12: work, at. */
public final class ListTest {
    private static final int NONE = LeastSolutions.NONE;

    public static void main(String[] args) {
        wrongCalls();
        summands();
        least();
        signed();
        withoutColumns();
        refused();
        justAsMany();
        at();
        whatThrowsChangesNothing();
        Due.end("ListTest");
    }

    private static void wrongCalls() {
        LeastSolutions x = new LeastSolutions();
        wrongArguments(x);
        for (int list = 0; list <= 2; list++) {
            int what = list;
            Due.exception("work() without a system", IllegalStateException.class, () -> x.work(what, 0));
        }
        wrongArguments(Due.system("a=b"));
    }

    private static void wrongArguments(LeastSolutions x) {
        int[][] wrong = {{-1, 3}, {3, 3}, {Integer.MAX_VALUE, 0}, {Integer.MIN_VALUE, 0}, {0, -1}, {1, -1}, {2, -1},
            {0, 17}, {1, 17}, {2, 11}, {0, Integer.MAX_VALUE}, {2, Integer.MIN_VALUE}};
        for (int[] pair : wrong) {
            Due.exception("work(" + pair[0] + ", " + pair[1] + ")", IllegalArgumentException.class,
                    () -> x.work(pair[0], pair[1]));
        }
    }

    private static void summands() {
        Due.list(Due.system("3x-5y=2z"), 0, 16, "2,0,3 3,1,2 4,2,1 5,3,0");
        Due.list(Due.system("3x-5y=2z+9"), 0, 16, "2,0,3 3,1,2 4,2,1 5,3,0");
        Due.list(Due.system("3x-5y=2z"), 0, 7, "2,0,3 3,1,2 4,2,1");
        Due.list(Due.system("3x-5y=2z"), 0, 4, "");
        Due.list(Due.system("3x-5y=2z"), 0, 0, "");
        Due.list(Due.system("0a+0b=0"), 0, 1, "0,1 1,0");
        Due.list(Due.system("0a+0b=0"), 0, 16, "0,1 1,0");
        Due.list(Due.system("a+b=1"), 0, 16, "");
        Due.list(Due.system("a+b=c+d;e=f"), 0, 16, "0,0,0,0,1,1 0,1,0,1,0,0 0,1,1,0,0,0 1,0,0,1,0,0 1,0,1,0,0,0");
        Due.list(Due.system("15a=b"), 0, 15, "");
        Due.list(Due.system("15a=b"), 0, 16, "1,15");
        Due.list(Due.system("a=b;a=2b"), 0, 16, "");
    }

    private static void least() {
        Due.list(Due.system("x+y=2"), 1, 16, "0,2 1,1 2,0");
        Due.list(Due.system("x+y=2"), 1, 2, "0,2 1,1 2,0");
        Due.list(Due.system("x+y=2"), 1, 1, "");
        Due.list(Due.system("x=y"), 1, 0, "0,0");
        Due.list(Due.system("x=y"), 1, 16, "0,0");
        Due.list(Due.system("x=y+2"), 1, 16, "2,0");
        Due.list(Due.system("2x+3y=12+z"), 1, 8, "0,4,0 3,2,0 2,3,1 6,0,0 5,1,1");
        Due.list(Due.system("x+y=-1"), 1, 16, "");
        Due.list(Due.system("2x+4y=3"), 1, 16, "");
        Due.list(Due.system("x=16"), 1, 16, "16");
        Due.list(Due.system("x=16"), 1, 15, "");
        Due.list(Due.system("x>=3"), 1, 16, "3,0");
        Due.list(Due.system("x<=3"), 1, 16, "0,3 1,2 2,1 3,0");
    }

    private static void signed() {
        Due.list(Due.system("3x-5y=2z"), 2, 10, "1,1,-1 2,0,3 1,-1,4 3,1,2 0,2,-5 4,2,1 5,3,0");
        Due.list(Due.system("3x-5y=2z+1"), 2, 6, "1,1,-1 2,0,3 1,-1,4 3,1,2");
        Due.list(Due.system("3x-5y=2z"), 2, 2, "");
        Due.list(Due.system("3x-5y=2z"), 2, 0, "");
        Due.list(Due.system("x+y+z=0"), 2, 10, "0,1,-1 1,-1,0 1,0,-1");
        Due.list(Due.system("0a+0b=0"), 2, 10, "0,1 1,0");
        Due.list(Due.system("x+2y=0"), 2, 10, "2,-1");
        Due.list(Due.system("9x=y"), 2, 10, "1,9");
        Due.list(Due.system("9x+y=0"), 2, 9, "");
        Due.list(Due.system("x=1"), 2, 10, "");
    }

    private static void withoutColumns() {
        LeastSolutions x = Due.system("1=1");
        Due.answer("summands of no columns", x.work(0, 16), 0);
        Due.answer("the least one of no columns", x.work(1, 16), 1);
        Due.answer("the least one of no columns, size 0", x.work(1, 0), 1);
        Due.answer("signed ones of no columns", x.work(2, 10), 0);
        Due.exception("at() of no columns", IndexOutOfBoundsException.class, () -> x.at(1, 0, 0));
        LeastSolutions y = Due.system("1=2");
        Due.answer("no least one of no columns", y.work(1, 16), 0);
    }

    private static void refused() {
        LeastSolutions x = Due.system("a+b+c+d+e+f=16");
        Due.answer("work()", x.work(1, 15), 0);
        Due.answer("work() of more than 2000", x.work(1, 16), NONE);
        Due.exception("at() of a refused list", IndexOutOfBoundsException.class, () -> x.at(1, 0, 0));
        Due.fault(x, "a+b+c+d+e+f=3", 0, NONE);
        Due.answer("work()", x.work(1, 16), 56);
        Due.answer("the other list", x.work(2, 2), 15);
        Due.answer("at()", x.at(1, 55, 0), 3);
        Due.fault(x, "a+b+c+d+e<=9", 0, NONE);
        Due.answer("work() of a few", x.work(1, 8), 0);
        Due.answer("work() of 2002", x.work(1, 9), NONE);
        Due.answer("work() again", x.work(1, 9), NONE);
        Due.exception("at() of a refused list", IndexOutOfBoundsException.class, () -> x.at(1, 0, 0));
        Due.answer("split() with a refused list", splitWithout(x), NONE);
        Due.answer("work() of a few", x.work(1, 8), 0);
    }

    private static int splitWithout(LeastSolutions x) {
        x.work(0, 16);
        x.tell(0, 9);
        return x.split();
    }

    private static void justAsMany() {
        LeastSolutions x = Due.system("a+b+c+d+e=9;0f=0");
        Due.answer("work() of 715", x.work(1, 16), 715);
        Due.fault(x, "a+b+2c+2d+3e+4f=21", 0, NONE);
        Due.answer("work() of 2000", x.work(1, 15), 2000);
        Due.answer("the last one", x.at(1, 1999, 0), 13);
        Due.answer("the last one", x.at(1, 1999, 5), 2);
        Due.exception("at() behind it", IndexOutOfBoundsException.class, () -> x.at(1, 2000, 0));
        Due.fault(x, "a+b+c+d+e+3f=17", 0, NONE);
        Due.answer("work() of 2001", x.work(1, 13), NONE);
    }

    private static void at() {
        LeastSolutions x = Due.system("x+y=2");
        Due.exception("at() before work()", IndexOutOfBoundsException.class, () -> x.at(1, 0, 0));
        x.work(1, 5);
        Due.answer("at(1, 2, 0)", x.at(1, 2, 0), 2);
        int[][] none = {{0, 0, 0}, {2, 0, 0}, {-1, 0, 0}, {3, 0, 0}, {1, -1, 0}, {1, 3, 0}, {1, 0, -1}, {1, 0, 2},
            {1, Integer.MAX_VALUE, 0}, {1, 0, Integer.MAX_VALUE}, {Integer.MIN_VALUE, 0, 0},
            {1, Integer.MIN_VALUE, 0}, {1, 0, 5}, {1, 0, 6}};
        for (int[] three : none) {
            Due.exception("at(" + three[0] + ", " + three[1] + ", " + three[2] + ")", IndexOutOfBoundsException.class,
                    () -> x.at(three[0], three[1], three[2]));
        }
        x.work(2, 5);
        Due.answer("at(2, 0, 1)", x.at(2, 0, 1), -1);
        Due.answer("the other list stays", x.at(1, 0, 1), 2);
        x.work(1, 1);
        Due.exception("at() of a list of none", IndexOutOfBoundsException.class, () -> x.at(1, 0, 0));
    }

    private static void whatThrowsChangesNothing() {
        LeastSolutions x = Due.system("x=y+1");
        x.work(0, 6);
        x.work(1, 6);
        Due.tell(x, 3, 2);
        x.split();
        Due.exception("work(0, 17)", IllegalArgumentException.class, () -> x.work(0, 17));
        Due.exception("work(1, -1)", IllegalArgumentException.class, () -> x.work(1, -1));
        Due.exception("work(3, 1)", IllegalArgumentException.class, () -> x.work(3, 1));
        Due.answer("the summands stay", x.at(0, 0, 1), 1);
        Due.answer("the least ones stay", x.at(1, 0, 0), 1);
        Due.answer("times stay", x.times(0), 2);
    }
}
