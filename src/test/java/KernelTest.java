/** Promises 8 to 10: solvable, kernel, kernelAt. */
public final class KernelTest {
    public static void main(String[] args) {
        withoutSystem();
        solvable();
        kernel();
        kernelAt();
        greatNumbers();
        Due.end("KernelTest");
    }

    private static void withoutSystem() {
        LeastSolutions x = new LeastSolutions();
        Due.exception("solvable()", IllegalStateException.class, x::solvable);
        Due.exception("kernel()", IllegalStateException.class, x::kernel);
        Due.exception("kernelAt()", IndexOutOfBoundsException.class, () -> x.kernelAt(0, 0));
        Due.fault(x, "a=", 1, 2);
        Due.exception("solvable() after a fault", IllegalStateException.class, x::solvable);
        Due.exception("kernel() after a fault", IllegalStateException.class, x::kernel);
        Due.exception("kernelAt() after a fault", IndexOutOfBoundsException.class, () -> x.kernelAt(0, 0));
    }

    private static void solvable() {
        solvable("1=1", 1);
        solvable("1=2", 0);
        solvable("0a=0", 1);
        solvable("0a=5", 0);
        solvable("a=-7", 1);
        solvable("2x+4y=3", 0);
        solvable("2x+4y=6", 1);
        solvable("6x+10y+15z=1", 1);
        solvable("6x+10y=1", 0);
        solvable("x=1;x=2", 0);
        solvable("x=1;2x=2", 1);
        solvable("x+y=3;x-y=1", 1);
        solvable("x+y=3;x-y=2", 0);
        solvable("2x<=3", 1);
        solvable("2x>=3;2x<=3", 1);
        solvable("x+y=1;y+z=1;x+z=1", 0);
        solvable("x+y=1;y+z=1;x+z=2", 1);
        solvable("x+y=1;2x+2y=2;3x+3y=3;4x+4y=4", 1);
        solvable("x+y=1;2x+2y=2;3x+3y=3;4x+4y=5", 0);
        solvable("0x=0;x=4;0x=0;y=x", 1);
        solvable("7x=200;x=y", 0);
    }

    private static void solvable(String text, int want) {
        Due.answer("solvable() of " + text, Due.system(text).solvable(), want);
    }

    private static void kernel() {
        basis("1=1", "");
        basis("a=1", "");
        basis("0a=1", "1");
        basis("0a+0b=0", "1,0 0,1");
        basis("x=1;x=2", "");
        basis("3x-5y=2z", "1,1,-1 0,2,-5");
        basis("6x+10y+15z=1", "5,0,-2 0,3,-2");
        basis("2a=4b", "2,1");
        basis("a=-b", "1,-1");
        basis("0a+b=0", "1,0");
        basis("a<=1", "1,-1");
        basis("a>=1", "1,1");
        basis("1<=2", "");
        basis("a+b+c=1;a+b+c=2", "1,0,-1 0,1,-1");
        basis("a+b=c+d;e=f", "1,0,0,1,0,0 0,1,0,1,0,0 0,0,1,-1,0,0 0,0,0,0,1,1");
        basis("0a+0b+0c+0d+0e+0f=0", "1,0,0,0,0,0 0,1,0,0,0,0 0,0,1,0,0,0 0,0,0,1,0,0 0,0,0,0,1,0 0,0,0,0,0,1");
        basis("3a+2b+0c=7c", "1,2,1 0,7,2");
    }

    private static void basis(String text, String want) {
        LeastSolutions x = Due.system(text);
        String[] vectors = want.isEmpty() ? new String[0] : want.split(" ");
        for (int i = 0; i < vectors.length; i++) {
            String[] numbers = vectors[i].split(",");
            for (int column = 0; column < numbers.length; column++) {
                Due.answer("kernelAt(" + i + ", " + column + ") of " + text, x.kernelAt(i, column),
                        Long.parseLong(numbers[column]));
            }
        }
        Due.answer("kernel() of " + text, x.kernel(), vectors.length);
    }

    private static void kernelAt() {
        LeastSolutions x = Due.system("a+b+c=1");
        int[][] none = {{-1, 0}, {2, 0}, {0, -1}, {0, 3}, {6, 0}, {0, 6}, {Integer.MAX_VALUE, 0},
            {0, Integer.MAX_VALUE}, {Integer.MIN_VALUE, Integer.MIN_VALUE}};
        for (int[] pair : none) {
            Due.exception("kernelAt(" + pair[0] + ", " + pair[1] + ")", IndexOutOfBoundsException.class,
                    () -> x.kernelAt(pair[0], pair[1]));
        }
        LeastSolutions y = Due.system("1=1");
        Due.exception("kernelAt() of no columns", IndexOutOfBoundsException.class, () -> y.kernelAt(0, 0));
        Due.fault(x, "a=1", 0, LeastSolutions.NONE);
        Due.exception("kernelAt() of a kernel that is gone", IndexOutOfBoundsException.class, () -> x.kernelAt(0, 0));
    }

    private static void greatNumbers() {
        LeastSolutions x = Due.system("19a+17b=20c;19c+13d=20e;17e+19f=20d;20a-19f=17d");
        long[][] basis = new long[x.kernel()][6];
        for (int i = 0; i < basis.length; i++) {
            for (int column = 0; column < 6; column++) {
                basis[i][column] = x.kernelAt(i, column);
            }
        }
        Due.answer("kernel()", basis.length, 2);
        for (long[] v : basis) {
            Due.answer("row 0", 19 * v[0] + 17 * v[1] - 20 * v[2], 0);
            Due.answer("row 1", 19 * v[2] + 13 * v[3] - 20 * v[4], 0);
            Due.answer("row 2", 17 * v[4] + 19 * v[5] - 20 * v[3], 0);
            Due.answer("row 3", 20 * v[0] - 19 * v[5] - 17 * v[3], 0);
        }
        Due.holds("the numbers are beyond 1000", Math.abs(basis[1][5]) > 1000);
    }
}
