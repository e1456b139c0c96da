import java.math.BigInteger;
import java.util.ArrayList;
import java.util.Arrays;
import java.util.List;
import java.util.Random;

/**
 * All promises on many systems that are made up: against the words of the document, worked out
 * plainly (every vector within the bound, every pair of them, minors instead of an echelon). Long
 * lists take more calls than the 512 of the document; this class does not count them.
 */
public final class ModelTest {
    private static final int NONE = LeastSolutions.NONE;
    // A fixed seed, so that each run asks the same.
    private final Random random = new Random(20261115);

    public static void main(String[] args) {
        ModelTest test = new ModelTest();
        LeastSolutions x = new LeastSolutions();
        for (int i = 0; i < 3000; i++) {
            if (i % 8 == 0) {
                x = new LeastSolutions();
            }
            test.texts(x);
        }
        for (int i = 0; i < 1500; i++) {
            test.systems(i);
        }
        for (int i = 0; i < 3000; i++) {
            test.greatKernels(i);
        }
        Due.end("ModelTest");
    }

    // Texts

    private void texts(LeastSolutions x) {
        String text = random.nextInt(3) == 0 ? soup() : almostSystem();
        Due.type(x, text);
        Parser due = new Parser(text);
        Due.answer("read() of '" + text + "'", x.read(), due.fault);
        Due.answer("place() of '" + text + "'", x.place(), due.place);
        if (due.fault == 0) {
            Due.answer("rows of '" + text + "'", x.count(0), due.rows.size());
            Due.answer("columns of '" + text + "'", x.count(1), due.columns());
            Due.answer("variables of '" + text + "'", x.count(2), due.letters.length());
            for (int row = 0; row < due.rows.size(); row++) {
                for (int column = 0; column <= due.columns(); column++) {
                    Due.answer("number(" + row + ", " + column + ") of '" + text + "'", x.number(row, column),
                            due.matrix()[row][column]);
                }
            }
            for (int column = 0; column < 7; column++) {
                Due.answer("letter(" + column + ") of '" + text + "'", x.letter(column),
                        column < due.letters.length() ? due.letters.charAt(column) : NONE);
            }
        }
    }

    private String soup() {
        String[] words = {"a", "b", "c", "x", "1", "20", "9999", "12345", "+", "-", "*", ";", "=", "<=", ">=", "<", ">",
            " ", "A"};
        StringBuilder text = new StringBuilder();
        int n = random.nextInt(9);
        for (int i = 0; i < n; i++) {
            text.append(words[random.nextInt(words.length)]);
        }
        return text.toString();
    }

    private String almostSystem() {
        StringBuilder text = new StringBuilder();
        int rows = 1 + random.nextInt(5);
        int letters = 1 + random.nextInt(7);
        for (int row = 0; row < rows; row++) {
            text.append(row == 0 ? "" : ";");
            side(text, letters);
            text.append(new String[] {"=", "<=", ">=", " =", "= "}[random.nextInt(5)]);
            side(text, letters);
        }
        if (random.nextInt(6) == 0) {
            text.setCharAt(random.nextInt(text.length()), "a1+-*;=<> B"
                    .charAt(random.nextInt(11)));
        }
        return text.length() <= 300 ? text.toString() : text.substring(0, 300);
    }

    private void side(StringBuilder text, int letters) {
        text.append(random.nextInt(4) == 0 ? "-" : "");
        int terms = 1 + random.nextInt(3);
        for (int i = 0; i < terms; i++) {
            text.append(i == 0 ? "" : random.nextBoolean() ? "+" : " - ");
            int kind = random.nextInt(4);
            if (kind != 0) {
                text.append(random.nextInt(random.nextInt(30) == 0 ? 250 : 15));
            }
            if (kind == 2) {
                text.append(random.nextBoolean() ? "*" : " ");
            }
            if (kind != 1) {
                text.append((char) ('p' + random.nextInt(letters)));
            }
        }
    }

    /** Reads by the rules of the grammar, one method for each. */
    private static final class Parser {
        private final String text;
        private int at = 0;
        private int fault = 0;
        private int place = NONE;
        private String letters = "";
        private final List<Row> rows = new ArrayList<>();
        // Of each row; a row is built while its words are read, and judged when the whole text is.
        private final List<int[]> events = new ArrayList<>();

        private static final class Row {
            private final int[] a = new int[26];
            private int b = 0;
            private int slack = 0;
        }

        private static final class NoSystem extends RuntimeException {
            private static final long serialVersionUID = 1;
        }

        Parser(String text) {
            this.text = text;
            try {
                row();
                while (at() < text.length()) {
                    take(";");
                    row();
                }
            } catch (NoSystem e) {
                fault = 1;
                place = at();
                return;
            }
            judge();
        }

        int columns() {
            int slacks = 0;
            for (Row row : rows) {
                slacks += row.slack == 0 ? 0 : 1;
            }
            return letters.length() + slacks;
        }

        int[][] matrix() {
            int[][] matrix = new int[rows.size()][columns() + 1];
            int slackColumn = letters.length();
            for (int i = 0; i < rows.size(); i++) {
                for (int column = 0; column < letters.length(); column++) {
                    matrix[i][column] = rows.get(i).a[letters.charAt(column) - 'a'];
                }
                if (rows.get(i).slack != 0) {
                    matrix[i][slackColumn++] = rows.get(i).slack;
                }
                matrix[i][columns()] = rows.get(i).b;
            }
            return matrix;
        }

        private int at() {
            while (at < text.length() && text.charAt(at) == ' ') {
                at++;
            }
            return at;
        }

        private String word() {
            String rest = text.substring(at());
            String number = rest.replaceAll("^([0-9]*)[\\s\\S]*$", "$1");
            if (!number.isEmpty()) {
                return number.length() <= 4 ? number : "";
            }
            if (rest.startsWith("<=") || rest.startsWith(">=")) {
                return rest.substring(0, 2);
            }
            return rest.matches("^[-a-z+*;=][\\s\\S]*$") ? rest.substring(0, 1) : "";
        }

        private boolean isNext(String pattern) {
            return word().matches(pattern);
        }

        private String take(String pattern) {
            if (!isNext(pattern)) {
                throw new NoSystem();
            }
            String word = word();
            at = at() + word.length();
            return word;
        }

        // An event: its kind (0 row, 1 variable, 2 number, 3 relation), its place, what it is, how often.
        private void row() {
            events.add(new int[] {0, at(), 0, 0});
            sum(1);
            int relationAt = at();
            String relation = take("=|<=|>=");
            events.add(new int[] {3, relationAt, relation.equals("=") ? 0 : relation.equals("<=") ? 1 : -1, 0});
            sum(-1);
        }

        private void sum(int side) {
            int sign = 1;
            if (isNext("-")) {
                take("-");
                sign = -1;
            }
            term(side * sign);
            while (isNext("[-+]")) {
                sign = take("[-+]").equals("+") ? 1 : -1;
                term(side * sign);
            }
        }

        private void term(int factor) {
            int often = 1;
            if (isNext("[0-9]+")) {
                often = Integer.parseInt(take("[0-9]+"));
                if (isNext("[*]")) {
                    take("[*]");
                } else if (!isNext("[a-z]")) {
                    events.add(new int[] {2, 0, 0, factor * often});
                    return;
                }
            }
            int letterAt = at();
            events.add(new int[] {1, letterAt, take("[a-z]").charAt(0), factor * often});
        }

        private void judge() {
            int relationAt = NONE;
            for (int i = 0; i < events.size() && fault == 0; i++) {
                int[] event = events.get(i);
                if (event[0] == 0) {
                    if (rows.size() == 4) {
                        fault(2, event[1]);
                        return;
                    }
                    rows.add(new Row());
                }
                Row row = rows.get(rows.size() - 1);
                if (event[0] == 1) {
                    if (letters.indexOf(event[2]) < 0) {
                        if (columns() == 6) {
                            fault(2, event[1]);
                            return;
                        }
                        letters += (char) event[2];
                    }
                    row.a[event[2] - 'a'] += event[3];
                } else if (event[0] == 2) {
                    row.b -= event[3];
                } else if (event[0] == 3) {
                    relationAt = i;
                }
                if (i + 1 == events.size() || events.get(i + 1)[0] == 0) {
                    endRow(row, events.get(relationAt));
                }
            }
        }

        private void endRow(Row row, int[] relation) {
            if (relation[2] != 0 && columns() == 6) {
                fault(2, relation[1]);
                return;
            }
            row.slack = relation[2];
            boolean isLarge = Math.abs(row.b) > 200;
            for (int number : row.a) {
                isLarge |= Math.abs(number) > 20;
            }
            if (isLarge) {
                fault(3, relation[1]);
            }
        }

        private void fault(int kind, int where) {
            fault = kind;
            place = where;
        }
    }

    // Systems

    private String text;
    private LeastSolutions x;
    private int rows;
    private int columns;
    private int[][] a;

    private void systems(int i) {
        do {
            text = smallSystem(i % 4);
        } while (new Parser(text).fault != 0);
        x = next(i);
        rows = x.count(0);
        columns = x.count(1);
        a = new Parser(text).matrix();
        solvable();
        kernel();
        int bound = random.nextInt(columns > 4 ? 8 : 17);
        int signedBound = random.nextInt(columns > 4 ? 5 : 11);
        List<int[]> summands = least(true, bound);
        list(0, bound, summands);
        int otherBound = random.nextInt(columns > 4 ? 8 : 17);
        List<int[]> least = least(false, otherBound);
        list(1, otherBound, least);
        list(2, signedBound, signed(signedBound));
        for (int j = 0; j < 6; j++) {
            split(summands, bound, least, otherBound);
        }
        for (int j = 0; j < 3; j++) {
            best(random.nextInt(columns > 4 ? 8 : 17));
        }
    }

    /** Some systems for each object, so that one is not worked out by what is left of another. */
    private LeastSolutions next(int i) {
        if (i % 5 == 0) {
            return Due.system(text);
        }
        Due.fault(x, text, 0, NONE);
        return x;
    }

    private String smallSystem(int size) {
        StringBuilder made = new StringBuilder();
        int height = 1 + random.nextInt(4);
        int letters = 1 + random.nextInt(2 + size);
        for (int row = 0; row < height; row++) {
            made.append(row == 0 ? "" : ";");
            for (int i = 0; i < letters; i++) {
                made.append(i == 0 ? "0" : "").append(random.nextBoolean() ? "+" : "-").append(random.nextInt(5));
                made.append((char) ('a' + i));
            }
            made.append(new String[] {"=", "<=", ">="}[random.nextInt(5) % 3]);
            made.append(random.nextBoolean() ? 0 : random.nextInt(9));
        }
        return made.toString();
    }

    private boolean solves(int[] vector, boolean isHomogeneous) {
        for (int row = 0; row < rows; row++) {
            int sum = isHomogeneous ? 0 : -a[row][columns];
            for (int column = 0; column < columns; column++) {
                sum += a[row][column] * vector[column];
            }
            if (sum != 0) {
                return false;
            }
        }
        return true;
    }

    private static int size(int[] vector) {
        int size = 0;
        for (int number : vector) {
            size += Math.abs(number);
        }
        return size;
    }

    /** All vectors with numbers from the lowest one, times the bound, to the bound, of at most this size. */
    private List<int[]> all(int lowest, int bound) {
        List<int[]> vectors = new ArrayList<>();
        vectors.add(new int[columns]);
        for (int column = 0; column < columns; column++) {
            List<int[]> longer = new ArrayList<>();
            for (int[] vector : vectors) {
                for (int number = lowest * bound; number <= bound; number++) {
                    int[] next = vector.clone();
                    next[column] = number;
                    if (size(next) <= bound) {
                        longer.add(next);
                    }
                }
            }
            vectors = longer;
        }
        return vectors;
    }

    private List<int[]> solutions(boolean isHomogeneous, int lowest, int bound) {
        List<int[]> found = new ArrayList<>();
        for (int[] vector : all(lowest, bound)) {
            if (solves(vector, isHomogeneous)) {
                found.add(vector);
            }
        }
        return found;
    }

    private List<int[]> least(boolean isHomogeneous, int bound) {
        List<int[]> candidates = solutions(isHomogeneous, 0, bound);
        if (isHomogeneous) {
            candidates.removeIf(vector -> size(vector) == 0);
        }
        List<int[]> least = new ArrayList<>(candidates);
        least.removeIf(vector -> candidates.stream().anyMatch(other -> other != vector && isWithin(other, vector)));
        sort(least);
        return least;
    }

    private List<int[]> signed(int bound) {
        List<int[]> candidates = solutions(true, -1, bound);
        candidates.removeIf(vector -> size(vector) == 0);
        List<int[]> signed = new ArrayList<>(candidates);
        signed.removeIf(vector -> !isLeadPositive(vector)
                || candidates.stream().anyMatch(other -> other != vector && isWithin(other, vector)));
        sort(signed);
        return signed;
    }

    private static boolean isLeadPositive(int[] vector) {
        for (int number : vector) {
            if (number != 0) {
                return number > 0;
            }
        }
        return false;
    }

    private static boolean isWithin(int[] inner, int[] outer) {
        for (int column = 0; column < inner.length; column++) {
            if (inner[column] < Math.min(0, outer[column]) || inner[column] > Math.max(0, outer[column])) {
                return false;
            }
        }
        return true;
    }

    private static void sort(List<int[]> vectors) {
        vectors.sort((one, other) -> size(one) != size(other) ? size(one) - size(other) : Arrays.compare(one, other));
    }

    private void list(int what, int bound, List<int[]> due) {
        String call = "work(" + what + ", " + bound + ") of '" + text + "'";
        int n = x.work(what, bound);
        Due.answer(call, n, due.size() > 2000 ? NONE : due.size());
        for (int i = 0; i < Math.min(n, due.size()); i++) {
            for (int column = 0; column < columns; column++) {
                Due.answer(call + ", at(" + i + ", " + column + ")", x.at(what, i, column), due.get(i)[column]);
            }
        }
    }

    private void split(List<int[]> summands, int bound, List<int[]> least, int otherBound) {
        int[] told = told(least, summands);
        Due.tell(x, told);
        boolean isSolution = solves(told, false);
        boolean isPositive = Arrays.stream(told).noneMatch(number -> number < 0);
        Due.answer("holds() of '" + text + "'", x.holds(),
                (isSolution ? 1 : 0) + (solves(told, true) ? 2 : 0) + (isPositive ? 4 : 0));
        int first = NONE;
        for (int i = least.size() - 1; i >= 0; i--) {
            first = isWithin(least.get(i), told) ? i : first;
        }
        if (!isSolution || !isPositive || size(told) > Math.min(bound, otherBound)) {
            Due.answer("split() of '" + text + "'", x.split(), NONE);
            return;
        }
        Due.answer("split() of '" + text + "'", x.split(), first);
        int[] rest = told.clone();
        take(rest, least.get(first));
        for (int i = 0; i < summands.size(); i++) {
            int often = 0;
            while (isWithin(summands.get(i), rest)) {
                take(rest, summands.get(i));
                often++;
            }
            Due.answer("times(" + i + ") of '" + text + "'", x.times(i), often);
        }
        Due.answer("what is left of '" + text + "'", size(rest), 0);
        Due.answer("times() behind all", x.times(summands.size()), NONE);
    }

    /** Now and then a vector that is no solution, else a sum. */
    private int[] told(List<int[]> least, List<int[]> summands) {
        int[] told = new int[columns];
        if (random.nextInt(4) == 0 || least.isEmpty()) {
            for (int column = 0; column < columns; column++) {
                told[column] = random.nextInt(7) - 2;
            }
            return told;
        }
        add(told, least.get(random.nextInt(least.size())));
        for (int i = random.nextInt(3); i > 0 && !summands.isEmpty(); i--) {
            add(told, summands.get(random.nextInt(summands.size())));
        }
        return told;
    }

    private static void add(int[] vector, int[] other) {
        for (int column = 0; column < vector.length; column++) {
            vector[column] += other[column];
        }
    }

    private static void take(int[] vector, int[] other) {
        for (int column = 0; column < vector.length; column++) {
            vector[column] -= other[column];
        }
    }

    private void best(int bound) {
        int[] costs = new int[columns];
        for (int column = 0; column < columns; column++) {
            costs[column] = random.nextInt(7) - 3;
            x.cost(column, costs[column]);
        }
        List<int[]> found = solutions(false, 0, bound);
        String call = "best(" + bound + ") of '" + text + "'";
        if (found.isEmpty()) {
            Due.exception(call, java.util.NoSuchElementException.class, () -> x.best(bound));
            return;
        }
        found.sort((one, other) -> price(one, costs) != price(other, costs)
                ? price(one, costs) - price(other, costs) : Arrays.compare(one, other));
        Due.answer(call, x.best(bound), price(found.get(0), costs));
        for (int column = 0; column < columns; column++) {
            Due.answer(call + ", bestAt(" + column + ")", x.bestAt(column), found.get(0)[column]);
        }
        Due.answer(call + ", bestAt() behind all", x.bestAt(columns), NONE);
    }

    private static int price(int[] vector, int[] costs) {
        int price = 0;
        for (int column = 0; column < vector.length; column++) {
            price += costs[column] * vector[column];
        }
        return price;
    }

    // The kernel, by minors

    private void greatKernels(int i) {
        int height = 1 + random.nextInt(4);
        int letters = 1 + random.nextInt(6);
        StringBuilder made = new StringBuilder();
        for (int row = 0; row < height; row++) {
            made.append(row == 0 ? "" : ";");
            for (int j = 0; j < letters; j++) {
                made.append(j == 0 ? "0" : "").append(random.nextBoolean() ? "+" : "-");
                made.append(random.nextInt(3) == 0 ? 20 - random.nextInt(2) : random.nextInt(21));
                made.append((char) ('a' + j));
            }
            made.append("=").append(random.nextInt(3) == 0 ? 0 : random.nextInt(201));
        }
        text = made.toString();
        x = next(i);
        rows = height;
        columns = letters;
        a = new Parser(text).matrix();
        solvable();
        kernel();
    }

    /** Whole solutions are there just when the greatest minors with B and without have the same divisor. */
    private void solvable() {
        long[][] without = new long[rows][columns];
        long[][] with = new long[rows][columns + 1];
        for (int row = 0; row < rows; row++) {
            for (int column = 0; column <= columns; column++) {
                with[row][column] = a[row][column];
                if (column < columns) {
                    without[row][column] = a[row][column];
                }
            }
        }
        int rank = rank(without, columns);
        boolean due = rank == rank(with, columns + 1)
                && divisorOfMinors(without, columns, rank).equals(divisorOfMinors(with, columns + 1, rank));
        Due.answer("solvable() of '" + text + "'", x.solvable(), due ? 1 : 0);
    }

    private void kernel() {
        long[][] matrix = new long[rows][columns];
        for (int row = 0; row < rows; row++) {
            for (int column = 0; column < columns; column++) {
                matrix[row][column] = a[row][column];
            }
        }
        int d = columns - rank(matrix, columns);
        Due.answer("kernel() of '" + text + "'", x.kernel(), d);
        long[][] basis = new long[d][columns];
        for (int i = 0; i < d; i++) {
            for (int column = 0; column < columns; column++) {
                basis[i][column] = x.kernelAt(i, column);
            }
        }
        for (long[] vector : basis) {
            for (long[] row : matrix) {
                Due.holds("a kernel vector of '" + text + "'", product(row, vector).signum() == 0);
            }
        }
        Due.holds("all of the kernel of '" + text + "'",
                d == 0 || divisorOfMinors(basis, columns, d).equals(BigInteger.ONE));
        int before = -1;
        for (int i = 0; i < d; i++) {
            int lead = 0;
            while (lead < columns - 1 && basis[i][lead] == 0) {
                lead++;
            }
            Due.holds("the lead of '" + text + "'", lead > before && basis[i][lead] > 0);
            for (int j = 0; j < i; j++) {
                Due.holds("the numbers over a lead of '" + text + "'",
                        basis[j][lead] >= 0 && basis[j][lead] < basis[i][lead]);
            }
            before = lead;
        }
    }

    private static BigInteger product(long[] one, long[] other) {
        BigInteger sum = BigInteger.ZERO;
        for (int i = 0; i < one.length; i++) {
            sum = sum.add(BigInteger.valueOf(one[i]).multiply(BigInteger.valueOf(other[i])));
        }
        return sum;
    }

    private static int rank(long[][] matrix, int width) {
        int rank = 0;
        for (int k = 1; k <= Math.min(matrix.length, width); k++) {
            if (divisorOfMinors(matrix, width, k).signum() != 0) {
                rank = k;
            }
        }
        return rank;
    }

    private static BigInteger divisorOfMinors(long[][] matrix, int width, int k) {
        BigInteger divisor = k == 0 ? BigInteger.ONE : BigInteger.ZERO;
        for (int chosenRows = 0; chosenRows < 1 << matrix.length; chosenRows++) {
            for (int chosen = 0; chosen < 1 << width && k > 0; chosen++) {
                if (Integer.bitCount(chosenRows) == k && Integer.bitCount(chosen) == k) {
                    divisor = divisor.gcd(minor(matrix, chosenRows, chosen));
                }
            }
        }
        return divisor;
    }

    private static BigInteger minor(long[][] matrix, int chosenRows, int chosen) {
        if (chosenRows == 0) {
            return BigInteger.ONE;
        }
        int row = Integer.numberOfTrailingZeros(chosenRows);
        BigInteger sum = BigInteger.ZERO;
        int sign = 1;
        for (int column = 0; column < matrix[row].length; column++) {
            if ((chosen >> column & 1) == 1) {
                if (matrix[row][column] != 0) {
                    sum = sum.add(BigInteger.valueOf(sign * matrix[row][column])
                            .multiply(minor(matrix, chosenRows & ~(1 << row), chosen & ~(1 << column))));
                }
                sign = -sign;
            }
        }
        return sum;
    }
}
