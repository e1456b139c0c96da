/** The kernel, the lists and promises 8 to 12: each sentence of the document that names a boundary case. */
public final class ListEdgeTest {
    private static final int NONE = LeastSolutions.NONE;
    private static final int[] FAR = {Integer.MIN_VALUE, Integer.MIN_VALUE + 1, -1000, -1, 2000, 1 << 30,
        Integer.MAX_VALUE - 1, Integer.MAX_VALUE};

    public static void main(String[] args) {
        solvable();
        basis();
        kernel();
        kernelAt();
        summands();
        least();
        signed();
        order();
        refused();
        wrongWork();
        at();
        manyCalls();
        Due.end("ListEdgeTest");
    }

    // Promises 8 to 10

    private static void solvable() {
        Due.sentence(8, "1 when the system has a solution in whole numbers of any sign, otherwise 0");
        solvable("a=-200", 1);
        solvable("a=200", 1);
        solvable("-20a=-200", 1);
        solvable("20a=199", 0);
        solvable("20a=-190", 0);
        solvable("6a+10b=2", 1);
        solvable("6a+10b=-1", 0);
        solvable("2a-3b=1", 1);
        solvable("-3a+2b=-1", 1);
        solvable("6a-10b-15c=1", 1);
        solvable("6a-10b-14c=1", 0);
        solvable("0a+0b=0", 1);
        solvable("0a+0b=1", 0);
        solvable("0=0", 1);
        solvable("0=200", 0);
        solvable("0=1;a=1", 0);
        solvable("a=1;0=1", 0);
        solvable("1<=0", 1);
        solvable("2a+1>=2b;2a=2b+1", 0);
        solvable("a=1;a=1;a=1;a=2", 0);
        solvable("a=-3;2a=-6;a=-3;-a=3", 1);
        solvable("a+b=1;a-b=0", 0);
        solvable("a+b=1;a-b=-1", 1);
        solvable("20a+19b=1;20c+19d=-1;20e+19f=190;a+c+e=0", 1);
        solvable("20a+19b=1;20c+19d=-1;20e+19f=191;a+c+e=0", 0);
        Due.sentence(8, "IllegalStateException when there is no system");
        LeastSolutions x = new LeastSolutions();
        Due.noState("solvable()", x::solvable);
        Due.type(x, "a=1");
        Due.noState("solvable() before read()", x::solvable);
        Due.fault(x, "=", 1, 3);
        Due.noState("solvable() after a fault", x::solvable);
        Due.fault(x, "a=1", 0, NONE);
        Due.answer("solvable()", x.solvable(), 1);
    }

    private static void solvable(String text, int due) {
        Due.answer("solvable() of '" + text + "'", Due.system(text).solvable(), due);
    }

    private static void basis(String text, String due) {
        LeastSolutions x = Due.system(text);
        String[] vectors = due.isEmpty() ? new String[0] : due.split(" ");
        for (int i = 0; i < vectors.length; i++) {
            String[] numbers = vectors[i].split(",");
            Due.answer("columns of '" + text + "'", numbers.length, x.count(1));
            for (int column = 0; column < numbers.length; column++) {
                Due.answer("kernelAt(" + i + ", " + column + ") of '" + text + "'", x.kernelAt(i, column),
                        Long.parseLong(numbers[column]));
            }
        }
        Due.answer("kernel() of '" + text + "'", x.kernel(), vectors.length);
        Due.noIndex("kernelAt() behind the basis of '" + text + "'", () -> x.kernelAt(vectors.length, 0));
    }

    private static void basis() {
        Due.sentence(0, "each kernel vector is the sum of whole multiples (of any sign) of them");
        basis("2a=4b", "2,1");
        basis("20a=20b", "1,1");
        basis("20a=19b", "19,20");
        basis("a+b+c=0;2a+2b+2c=7", "1,0,-1 0,1,-1");
        basis("2a+2b=0;3b+3c=0", "1,-1,1");
        Due.sentence(0, "the LEAD of each is its first number that is not 0: it is above 0");
        basis("a+b=0", "1,-1");
        basis("b+a=0", "1,-1");
        basis("0a+3b+2c=0", "1,0,0 0,2,-3");
        Due.sentence(0, "leads lie farther behind from one vector to the next");
        basis("0a+b+0c-d=0", "1,0,0,0 0,1,0,1 0,0,1,0");
        basis("0a+0b+0c=0", "1,0,0 0,1,0 0,0,1");
        Due.sentence(0, "in the column of a lead the vectors before have numbers from 0 to below it");
        basis("3a+2b=7c", "1,2,1 0,7,2");
        basis("3a-2b=7c", "1,5,-1 0,7,-2");
        basis("6a+10b+15c=0", "5,0,-2 0,3,-2");
        basis("5a+b=5c+5d", "1,0,0,1 0,5,0,1 0,0,1,-1");
    }

    private static void kernel() {
        Due.sentence(9, "How many vectors the kernel's basis has");
        basis("1=1", "");
        basis("1=2", "");
        basis("a=0", "");
        basis("a=b;a=2b", "");
        basis("a<=1;a>=0", "1,-1,1");
        basis("a+b+c+d+e+f=a+b+c+d+e+f",
                "1,0,0,0,0,0 0,1,0,0,0,0 0,0,1,0,0,0 0,0,0,1,0,0 0,0,0,0,1,0 0,0,0,0,0,1");
        Due.sentence(9, "IllegalStateException when there is no system");
        LeastSolutions x = new LeastSolutions();
        Due.noState("kernel()", x::kernel);
        Due.fault(x, "a+b+c+d+e+f+g=0", 2, 12);
        Due.noState("kernel() after a fault", x::kernel);
        Due.fault(x, "a=b", 0, NONE);
        Due.answer("kernel()", x.kernel(), 1);
    }

    private static void kernelAt() {
        Due.sentence(10, "(kernel() need not have been called)");
        LeastSolutions x = Due.system("a=b");
        Due.answer("kernelAt()", x.kernelAt(0, 1), 1);
        Due.fault(x, "2a=3b", 0, NONE);
        Due.answer("kernelAt() of the next system", x.kernelAt(0, 1), 2);
        Due.fault(x, "2a==5b", 1, 3);
        Due.answer("kernelAt() after a fault", x.kernelAt(0, 0), 3);
        Due.sentence(10, "IndexOutOfBoundsException when there is none such, or no system");
        kernelIsNone(new LeastSolutions(), 0, 0);
        kernelIsNone(Due.system("1=1"), 0, 0);
        kernelIsNone(Due.system("a+b=1;a-b=1"), 0, 2);
        kernelIsNone(Due.system("a=b"), 1, 2);
        kernelIsNone(Due.system("0a+0b+0c+0d+0e+0f=0"), 6, 6);
        LeastSolutions y = Due.system("0a+0b+0c+0d+0e+0f=0");
        Due.fault(y, "a=b", 0, NONE);
        kernelIsNone(y, 1, 2);
    }

    private static void kernelIsNone(LeastSolutions x, int vectors, int columns) {
        for (int i = -1; i <= 7; i++) {
            for (int column = -1; column <= 7; column++) {
                if (i < 0 || i >= vectors || column < 0 || column >= columns) {
                    int j = i;
                    int k = column;
                    Due.noIndex("kernelAt(" + i + ", " + column + ")", () -> x.kernelAt(j, k));
                }
            }
        }
        for (int far : FAR) {
            Due.noIndex("kernelAt(" + far + ", 0)", () -> x.kernelAt(far, 0));
            Due.noIndex("kernelAt(0, " + far + ")", () -> x.kernelAt(0, far));
        }
    }

    // Promise 11

    private static void list(String text, int what, int bound, String due) {
        Due.list(Due.system(text), what, bound, due);
    }

    private static void summands() {
        Due.sentence(0, "0 SUMMANDS: kernel vectors, not all 0, without a number below 0");
        list("a=b+7", 0, 16, "1,1");
        list("a+b=0", 0, 16, "");
        list("a=0", 0, 16, "");
        list("0a=1", 0, 16, "1");
        list("1=1", 0, 16, "");
        Due.sentence(0, "SUMMANDS .. of size at most L");
        list("3a=5b", 0, 0, "");
        list("3a=5b", 0, 7, "");
        list("3a=5b", 0, 8, "5,3");
        list("15a=b", 0, 15, "");
        list("15a=b", 0, 16, "1,15");
        list("16a=b", 0, 16, "");
        list("0a=0", 0, 0, "");
        list("0a=0", 0, 1, "1");
        Due.sentence(0, "SUMMANDS .. no other one of these, but not all 0 itself, is at most as great in each column");
        list("a=b", 0, 16, "1,1");
        list("2a=b+c", 0, 16, "1,0,2 1,1,1 1,2,0");
        list("a+b=2c", 0, 16, "0,2,1 1,1,1 2,0,1");
    }

    private static void least() {
        Due.sentence(0, "1 LEAST: solutions without a number below 0");
        list("a=b", 1, 16, "0,0");
        list("a=-1", 1, 16, "");
        list("a+b=-1", 1, 16, "");
        list("2a=3", 1, 16, "");
        list("-a=-3", 1, 16, "3");
        list("0a=1", 1, 16, "");
        Due.answer("the least one without columns", Due.system("1=1").work(1, 0), 1);
        Due.answer("none without columns", Due.system("1=2").work(1, 16), 0);
        Due.sentence(0, "LEAST .. of size at most L");
        list("a=b", 1, 0, "0,0");
        list("a=1", 1, 0, "");
        list("a=1", 1, 1, "1");
        list("a=16", 1, 15, "");
        list("a=16", 1, 16, "16");
        list("a=17", 1, 16, "");
        list("a+2b=4", 1, 1, "");
        list("a+2b=4", 1, 2, "0,2");
        list("a+2b=4", 1, 3, "0,2 2,1");
        list("a+2b=4", 1, 4, "0,2 2,1 4,0");
        Due.sentence(0, "LEAST .. no other one is at most as great in each column");
        list("a=b+2", 1, 16, "2,0");
        list("a+b=2c", 1, 16, "0,0,0");
        list("a+b=2c+1", 1, 16, "0,1,0 1,0,0");
        list("a>=2", 1, 16, "2,0");
    }

    private static void signed() {
        Due.sentence(0, "2 SIGNED: kernel vectors, not all 0, whose first number that is not 0 is above 0");
        list("a+b=7", 2, 10, "1,-1");
        list("0a+b=-c", 2, 10, "1,0,0 0,1,-1");
        list("a=0", 2, 10, "");
        list("1=1", 2, 10, "");
        Due.sentence(0, "SIGNED .. of size at most L");
        list("a+b=0", 2, 0, "");
        list("a+b=0", 2, 1, "");
        list("a+b=0", 2, 2, "1,-1");
        list("9a+b=0", 2, 9, "");
        list("9a+b=0", 2, 10, "1,-9");
        list("10a+b=0", 2, 10, "");
        Due.sentence(0, "SIGNED .. no kernel vector other than 0 and itself has in each column a number that is "
                + "between 0 and its own one (or one of both)");
        list("a=b", 2, 10, "1,1");
        list("a+b+c=0", 2, 10, "0,1,-1 1,-1,0 1,0,-1");
        list("a=b+c", 2, 10, "0,1,-1 1,0,1 1,1,0");
        list("a+b=2c", 2, 10, "1,-1,0 0,2,1 1,1,1 2,0,1");
        list("a+2b+3c=0", 2, 10, "1,1,-1 2,-1,0 1,-2,1 3,0,-1 0,3,-2");
    }

    private static void order() {
        Due.sentence(0, "The vectors of a list stand by size; of the same size by columns, the lesser number .. first");
        list("2a+b=4", 1, 16, "2,0 1,2 0,4");
        list("a+2b=4", 1, 16, "0,2 2,1 4,0");
        list("a+2b=6+c", 1, 16, "0,3,0 2,2,0 4,1,0 6,0,0");
        list("a+b=c+d", 0, 2, "0,1,0,1 0,1,1,0 1,0,0,1 1,0,1,0");
        list("a+b=c+d", 2, 2, "0,0,1,-1 0,1,0,1 0,1,1,0 1,-1,0,0 1,0,0,1 1,0,1,0");
        list("2a=b+c", 2, 4, "0,1,-1 1,0,2 1,1,1 1,2,0");
    }

    private static void refused() {
        Due.sentence(0, "A list of more than 2000 vectors is refused");
        LeastSolutions x = Due.system("a+b+2c+2d+3e+4f=21");
        Due.answer("work() of 2000 least ones", x.work(1, 15), 2000);
        Due.answer("the last one of them", x.at(1, 1999, 0), 13);
        Due.answer("work() of 2001 least ones", Due.system("a+b+c+d+e+3f=17").work(1, 13), NONE);
        Due.answer("work() of 1820 summands", Due.system("a+b+c+d+e=12f").work(0, 13), 1820);
        Due.answer("work() of 2160 summands", Due.system("a+b+c+d+2e=15f").work(0, 16), NONE);
        Due.answer("work() of 725 signed ones", Due.system("a+b+c+d+e=9f").work(2, 10), 725);
        Due.sentence(11, "NONE, and there is no such list (also none of before), when it is refused");
        Due.answer("work() of more", x.work(1, 16), NONE);
        Due.noIndex("at() of before", () -> x.at(1, 0, 0));
        Due.noIndex("at() of before", () -> x.at(1, 1999, 5));
        Due.answer("work() of fewer", x.work(1, 6), 5);
        Due.noIndex("at() of the greater list of before", () -> x.at(1, 5, 0));
        LeastSolutions y = Due.system("a+b+c+d+2e=15f");
        y.work(2, 9);
        Due.answer("work() of a few", y.work(0, 9), 4);
        Due.answer("at() of a few", y.at(0, 0, 4), 7);
        Due.answer("work() of too many", y.work(0, 16), NONE);
        Due.noIndex("at() of before", () -> y.at(0, 0, 4));
        Due.answer("another list stays", y.at(2, 0, 2), 1);
    }

    private static void wrongWork() {
        LeastSolutions none = new LeastSolutions();
        LeastSolutions x = Due.system("a=b");
        Due.sentence(11, "IllegalArgumentException when what is not 0, 1, 2");
        for (int what : new int[] {-1, 3, 4, 256, Integer.MIN_VALUE, Integer.MAX_VALUE}) {
            for (int bound : new int[] {-1, 0, 10, 17}) {
                Due.noArgument("work(" + what + ", " + bound + ")", () -> x.work(what, bound));
                Due.noArgument("work(" + what + ", " + bound + ") without a system", () -> none.work(what, bound));
            }
        }
        Due.sentence(11, "or the bound is not 0 .. 16 (0 .. 10 for 2)");
        for (int what = 0; what <= 2; what++) {
            int list = what;
            int most = what == 2 ? 10 : 16;
            for (int bound : new int[] {-1, most + 1, 17, 256, Integer.MIN_VALUE, Integer.MAX_VALUE}) {
                Due.noArgument("work(" + what + ", " + bound + ")", () -> x.work(list, bound));
                Due.noArgument("work(" + what + ", " + bound + ") without a system", () -> none.work(list, bound));
            }
            for (int bound = 0; bound <= most; bound++) {
                Due.answer("work(" + what + ", " + bound + ")", x.work(what, bound), what == 1 || bound >= 2 ? 1 : 0);
            }
        }
        Due.sentence(11, "IllegalStateException when there is no system");
        for (int what = 0; what <= 2; what++) {
            int list = what;
            Due.noState("work(" + what + ", 0)", () -> none.work(list, 0));
            Due.noState("work(" + what + ", 10)", () -> none.work(list, 10));
        }
        Due.noState("work(0, 16)", () -> none.work(0, 16));
        Due.noState("work(1, 16)", () -> none.work(1, 16));
    }

    // Promise 12

    private static void at() {
        Due.sentence(12, "IndexOutOfBoundsException when there is none such");
        LeastSolutions x = new LeastSolutions();
        atIsNone(x, 0, 0, 0);
        Due.fault(x, "a+b=2", 0, NONE);
        for (int what = 0; what <= 2; what++) {
            atIsNone(x, what, 0, 0);
        }
        Due.answer("work()", x.work(1, 2), 3);
        atIsNone(x, 0, 0, 0);
        atIsNone(x, 1, 3, 2);
        LeastSolutions y = Due.system("a+b=2");
        Due.answer("work()", y.work(2, 2), 1);
        atIsNone(y, 0, 0, 0);
        atIsNone(y, 1, 0, 0);
        atIsNone(y, 2, 1, 2);
        Due.answer("at(2, 0, 1)", y.at(2, 0, 1), -1);
        LeastSolutions z = Due.system("a+b=2");
        Due.answer("work() of none", z.work(1, 1), 0);
        atIsNone(z, 1, 0, 2);
        LeastSolutions empty = Due.system("1=1");
        Due.answer("work() without columns", empty.work(1, 1), 1);
        atIsNone(empty, 1, 1, 0);
        for (int what : new int[] {Integer.MIN_VALUE, -1, 3, 4, Integer.MAX_VALUE}) {
            Due.noIndex("at(" + what + ", 0, 0)", () -> x.at(what, 0, 0));
        }
    }

    private static void atIsNone(LeastSolutions x, int what, int vectors, int columns) {
        for (int i = -1; i <= vectors + 1; i++) {
            for (int column = -1; column <= 7; column++) {
                if (i < 0 || i >= vectors || column < 0 || column >= columns) {
                    int j = i;
                    int k = column;
                    Due.noIndex("at(" + what + ", " + i + ", " + column + ")", () -> x.at(what, j, k));
                }
            }
        }
        for (int far : FAR) {
            Due.noIndex("at(" + what + ", " + far + ", 0)", () -> x.at(what, far, 0));
            Due.noIndex("at(" + what + ", 0, " + far + ")", () -> x.at(what, 0, far));
        }
    }

    private static void manyCalls() {
        Due.sentence(0, "An object is used for at most 512 calls after it has been made");
        LeastSolutions x = new LeastSolutions();
        int calls = 0;
        for (int round = 0; calls + 6 <= 512; round++) {
            Due.answer("type()", x.type(Due.packed("a+b=2c+1"), 8), 8);
            Due.answer("read()", x.read(), 0);
            Due.answer("work(1, 9)", x.work(1, 9), 2);
            Due.answer("work(0, 16)", x.work(0, 16), 3);
            Due.answer("work(2, 10)", x.work(2, 10), 4);
            Due.answer("best(16)", x.best(16), 0);
            calls += 6;
        }
        Due.answer("the 511th call", x.bestAt(1), 1);
        Due.answer("the 512th call", x.at(2, 0, 1), -1);
        Due.answer("calls", calls + 2, 512);
    }
}
