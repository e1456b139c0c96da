import java.util.Arrays;
import java.util.NoSuchElementException;

/** Systems of linear equations and inequalities over whole numbers, told by a text. */
public final class LeastSolutions {
    public static final int NONE = -1;

    private static final int MOST_CHARACTERS = 300;
    private static final int MOST_ROWS = 4;
    private static final int MOST_COLUMNS = 6;
    private static final int MOST_VECTORS = 2000;
    private static final int MOST_BOUND = 16;
    private static final int MOST_SIGNED_BOUND = 10;
    private static final int MOST_TOLD = 99;

    private static final int NO_FAULT = 0;
    private static final int NONE_OF_IT = 1;
    private static final int MANY = 2;
    private static final int LARGE = 3;

    private static final int SUMMANDS = 0;
    private static final int LEAST = 1;
    private static final int SIGNED = 2;

    private final Text text = new Text();
    private final Words words = new Words();
    private final Builder builder = new Builder();
    private final Lattice lattice = new Lattice();
    private final Search search = new Search();
    private final VectorList[] lists = new VectorList[3];
    private final Cheapest cheapest = new Cheapest();
    private final int[] told = new int[MOST_COLUMNS];
    private final int[] rest = new int[MOST_COLUMNS];
    private final int[] taken = new int[MOST_VECTORS];
    private final int[] bestVector = new int[MOST_COLUMNS];
    private Equations system = new Equations();
    private boolean hasSystem = false;
    private boolean hasSplit = false;
    private boolean hasBest = false;
    private int faultPlace = NONE;

    public LeastSolutions() {
        for (int what = SUMMANDS; what <= SIGNED; what++) {
            lists[what] = new VectorList();
        }
    }

    public int type(long characters, int n) {
        return text.put(characters, n) ? text.length : NONE;
    }

    public int read() {
        int fault = buildNext();
        text.length = 0;
        if (fault == NO_FAULT) {
            takeNext();
        }
        return fault;
    }

    public int place() {
        return faultPlace;
    }

    public int count(int what) {
        if (!hasSystem) {
            return NONE;
        }
        switch (what) {
            case 0:
                return system.rows;
            case 1:
                return system.columns();
            case 2:
                return system.variables;
            default:
                return NONE;
        }
    }

    public int letter(int column) {
        return column >= 0 && column < system.variables ? system.letters[column] : NONE;
    }

    public int number(int row, int column) throws IndexOutOfBoundsException {
        if (row < 0 || row >= system.rows || column < 0 || column > system.columns()) {
            throw new IndexOutOfBoundsException();
        }
        return column == system.columns() ? system.b[row] : system.a[row][column];
    }

    public int solvable() throws IllegalStateException {
        needSystem();
        return lattice.reaches(system) ? 1 : 0;
    }

    public int kernel() throws IllegalStateException {
        needSystem();
        return lattice.kernelVectors;
    }

    public long kernelAt(int i, int column) throws IndexOutOfBoundsException {
        if (i < 0 || i >= lattice.kernelVectors) {
            throw new IndexOutOfBoundsException();
        }
        needColumn(column);
        return lattice.kernelNumber(i, column);
    }

    public int work(int what, int bound) throws IllegalArgumentException, IllegalStateException {
        if (what < SUMMANDS || what > SIGNED) {
            throw new IllegalArgumentException();
        }
        needBound(bound, what == SIGNED ? MOST_SIGNED_BOUND : MOST_BOUND);
        needSystem();
        if (what != SIGNED) {
            hasSplit = false;
        }
        VectorList list = lists[what];
        list.begin(system.columns(), bound);
        search.prepare(system, what != LEAST, what == SIGNED);
        search.run(what == LEAST ? 0 : 1, bound, list);
        return list.isThere ? list.total : NONE;
    }

    public int at(int what, int i, int column) throws IndexOutOfBoundsException {
        if (what < SUMMANDS || what > SIGNED || !lists[what].has(i)) {
            throw new IndexOutOfBoundsException();
        }
        needColumn(column);
        return lists[what].numberOf(i, column);
    }

    public void tell(int column, int value) throws IndexOutOfBoundsException, IllegalArgumentException {
        needColumn(column);
        needTellable(value);
        told[column] = value;
    }

    public int holds() throws IllegalStateException {
        needSystem();
        return (system.solvedBy(told, false) ? 1 : 0)
                + (system.solvedBy(told, true) ? 2 : 0)
                + (isBelowZero(told) ? 0 : 4);
    }

    public int split() {
        if (!canSplit()) {
            return NONE;
        }
        int first = lists[LEAST].firstWithin(told);
        if (first == NONE) {
            return NONE;
        }
        System.arraycopy(told, 0, rest, 0, MOST_COLUMNS);
        lists[LEAST].takeFrom(rest, first);
        for (int i = 0; i < lists[SUMMANDS].total; i++) {
            taken[i] = takeOften(i);
        }
        hasSplit = true;
        return first;
    }

    public int times(int i) {
        return hasSplit && lists[SUMMANDS].has(i) ? taken[i] : NONE;
    }

    public void cost(int column, int value) throws IndexOutOfBoundsException, IllegalArgumentException {
        needColumn(column);
        needTellable(value);
        cheapest.costs[column] = value;
    }

    public int best(int bound) throws IllegalArgumentException, IllegalStateException, NoSuchElementException {
        needBound(bound, MOST_BOUND);
        needSystem();
        cheapest.begin(system.columns());
        search.prepare(system, false, false);
        search.run(0, bound, cheapest);
        if (!cheapest.isFound) {
            throw new NoSuchElementException();
        }
        System.arraycopy(cheapest.vector, 0, bestVector, 0, MOST_COLUMNS);
        hasBest = true;
        return cheapest.price;
    }

    public int bestAt(int column) {
        return hasBest && hasColumn(column) ? bestVector[column] : NONE;
    }

    private int buildNext() {
        if (!words.areSystem(text)) {
            faultPlace = words.faultPlace;
            return NONE_OF_IT;
        }
        int fault = builder.build(words);
        faultPlace = builder.faultPlace;
        return fault;
    }

    private void takeNext() {
        system = builder.exchange(system);
        hasSystem = true;
        lattice.build(system);
        for (int what = SUMMANDS; what <= SIGNED; what++) {
            lists[what].drop();
        }
        Arrays.fill(told, 0);
        Arrays.fill(cheapest.costs, 0);
        hasSplit = false;
        hasBest = false;
    }

    private boolean canSplit() {
        VectorList summands = lists[SUMMANDS];
        VectorList least = lists[LEAST];
        if (!summands.isThere || !least.isThere || isBelowZero(told) || !system.solvedBy(told, false)) {
            return false;
        }
        int size = sizeOf(told);
        return size <= summands.bound && size <= least.bound;
    }

    private int takeOften(int i) {
        VectorList summands = lists[SUMMANDS];
        int often = 0;
        for (int n = 0; n < MOST_BOUND && summands.isWithin(i, rest); n++) {
            summands.takeFrom(rest, i);
            often++;
        }
        return often;
    }

    private boolean hasColumn(int column) {
        return column >= 0 && column < system.columns();
    }

    private void needColumn(int column) {
        if (!hasColumn(column)) {
            throw new IndexOutOfBoundsException();
        }
    }

    private void needSystem() {
        if (!hasSystem) {
            throw new IllegalStateException();
        }
    }

    private static void needTellable(int value) {
        if (value < -MOST_TOLD || value > MOST_TOLD) {
            throw new IllegalArgumentException();
        }
    }

    private static void needBound(int bound, int most) {
        if (bound < 0 || bound > most) {
            throw new IllegalArgumentException();
        }
    }

    private static boolean isBelowZero(int[] vector) {
        for (int number : vector) {
            if (number < 0) {
                return true;
            }
        }
        return false;
    }

    private static int sizeOf(int[] vector) {
        int size = 0;
        for (int number : vector) {
            size += Math.abs(number);
        }
        return size;
    }

    /** The characters that are typed and not read yet. */
    private static final class Text {
        private final byte[] characters = new byte[MOST_CHARACTERS];
        private int length = 0;

        boolean put(long packed, int n) {
            if (n < 1 || n > 8 || length + n > MOST_CHARACTERS || !areTypable(packed, n)) {
                return false;
            }
            for (int i = n - 1; i >= 0; i--) {
                characters[length] = (byte) byteOf(packed, i);
                length++;
            }
            return true;
        }

        private static boolean areTypable(long packed, int n) {
            for (int i = 0; i < n; i++) {
                int character = byteOf(packed, i);
                if (character < 32 || character > 126) {
                    return false;
                }
            }
            return true;
        }

        private static int byteOf(long packed, int i) {
            return (int) (packed >>> (8 * i)) & 255;
        }

        /** 0, which is no character of a text, behind its end. */
        int characterAt(int i) {
            return i >= 0 && i < length ? characters[i] : 0;
        }
    }

    /** The words of a text, as far as they can be the beginning of a system. */
    private static final class Words {
        private static final int NUMBER = 0;
        private static final int VARIABLE = 1;
        private static final int PLUS = 2;
        private static final int MINUS = 3;
        private static final int STAR = 4;
        private static final int SEMICOLON = 5;
        private static final int EQUAL = 6;
        private static final int AT_MOST = 7;
        private static final int AT_LEAST = 8;

        private static final int MOST_DIGITS = 4;

        // What the grammar waits for, or has just got.
        private static final int SUM_DUE = 0;
        private static final int TERM_DUE = 1;
        private static final int NUMBER_GOT = 2;
        private static final int VARIABLE_DUE = 3;
        private static final int TERM_GOT = 4;

        private final int[] kinds = new int[MOST_CHARACTERS];
        private final int[] places = new int[MOST_CHARACTERS];
        // Of a number its value, of a variable its letter.
        private final int[] values = new int[MOST_CHARACTERS];
        private int total = 0;
        private int state = SUM_DUE;
        private boolean isRightSide = false;
        private int faultPlace = NONE;

        boolean areSystem(Text text) {
            total = 0;
            state = SUM_DUE;
            isRightSide = false;
            for (int at = 0; at < text.length; at += Math.max(1, widthAt(text, at))) {
                if (text.characterAt(at) != ' ' && !add(text, at)) {
                    faultPlace = at;
                    return false;
                }
            }
            faultPlace = text.length;
            return isSumWhole() && isRightSide;
        }

        private boolean add(Text text, int at) {
            int width = widthAt(text, at);
            int kind = kindAt(text, at, width);
            int next = stateAfter(kind);
            if (next == NONE || total >= MOST_CHARACTERS) {
                return false;
            }
            state = next;
            if (isRelation(kind) || kind == SEMICOLON) {
                isRightSide = kind != SEMICOLON;
            }
            kinds[total] = kind;
            places[total] = at;
            values[total] = kind == NUMBER ? valueOf(text, at, width) : text.characterAt(at);
            total++;
            return true;
        }

        private int stateAfter(int kind) {
            switch (kind) {
                case NUMBER:
                    return state == SUM_DUE || state == TERM_DUE ? NUMBER_GOT : NONE;
                case VARIABLE:
                    return state != TERM_GOT ? TERM_GOT : NONE;
                case PLUS:
                    return isSumWhole() ? TERM_DUE : NONE;
                case MINUS:
                    return isSumWhole() || state == SUM_DUE ? TERM_DUE : NONE;
                case STAR:
                    return state == NUMBER_GOT ? VARIABLE_DUE : NONE;
                case SEMICOLON:
                    return isSumWhole() && isRightSide ? SUM_DUE : NONE;
                case EQUAL:
                case AT_MOST:
                case AT_LEAST:
                    return isSumWhole() && !isRightSide ? SUM_DUE : NONE;
                default:
                    return NONE;
            }
        }

        private boolean isSumWhole() {
            return state == NUMBER_GOT || state == TERM_GOT;
        }

        static boolean isRelation(int kind) {
            return kind == EQUAL || kind == AT_MOST || kind == AT_LEAST;
        }

        private static int kindAt(Text text, int at, int width) {
            int character = text.characterAt(at);
            if (isDigit(character)) {
                return width <= MOST_DIGITS ? NUMBER : NONE;
            }
            if (character >= 'a' && character <= 'z') {
                return VARIABLE;
            }
            switch (character) {
                case '+':
                    return PLUS;
                case '-':
                    return MINUS;
                case '*':
                    return STAR;
                case ';':
                    return SEMICOLON;
                case '=':
                    return EQUAL;
                case '<':
                    return width == 2 ? AT_MOST : NONE;
                case '>':
                    return width == 2 ? AT_LEAST : NONE;
                default:
                    return NONE;
            }
        }

        private static int widthAt(Text text, int at) {
            int character = text.characterAt(at);
            if (character == '<' || character == '>') {
                return text.characterAt(at + 1) == '=' ? 2 : 1;
            }
            if (!isDigit(character)) {
                return 1;
            }
            int end = at + 1;
            while (end < text.length && isDigit(text.characterAt(end))) {
                end++;
            }
            return end - at;
        }

        private static int valueOf(Text text, int at, int width) {
            int value = 0;
            for (int i = at; i < at + width; i++) {
                value = 10 * value + text.characterAt(i) - '0';
            }
            return value;
        }

        private static boolean isDigit(int character) {
            return character >= '0' && character <= '9';
        }
    }

    /** The rows A x = B; the slacks are the last columns. */
    private static final class Equations {
        private static final int MOST_A = 20;
        private static final int MOST_B = 200;

        private final int[][] a = new int[MOST_ROWS][MOST_COLUMNS];
        private final int[] b = new int[MOST_ROWS];
        private final int[] letters = new int[MOST_COLUMNS];
        private final int[] slackRows = new int[MOST_COLUMNS];
        private final int[] slackNumbers = new int[MOST_COLUMNS];
        private int rows = 0;
        private int variables = 0;
        private int slacks = 0;

        void clear() {
            for (int row = 0; row < MOST_ROWS; row++) {
                Arrays.fill(a[row], 0);
            }
            Arrays.fill(b, 0);
            rows = 0;
            variables = 0;
            slacks = 0;
        }

        int columns() {
            return variables + slacks;
        }

        boolean isFull() {
            return columns() >= MOST_COLUMNS;
        }

        /** The column of a letter, a new one if need be; NONE when there is no room for it. */
        int columnOf(int letterOfIt) {
            for (int column = 0; column < variables; column++) {
                if (letters[column] == letterOfIt) {
                    return column;
                }
            }
            if (isFull()) {
                return NONE;
            }
            letters[variables] = letterOfIt;
            variables++;
            return variables - 1;
        }

        void addSlack(int row, int numberOfIt) {
            if (!isFull()) {
                slackRows[slacks] = row;
                slackNumbers[slacks] = numberOfIt;
                slacks++;
            }
        }

        /** Only when all variables are known is it known which columns the slacks are. */
        void placeSlacks() {
            for (int i = 0; i < slacks && variables + i < MOST_COLUMNS; i++) {
                a[slackRows[i]][variables + i] = slackNumbers[i];
            }
        }

        boolean isLarge(int row) {
            for (int column = 0; column < variables; column++) {
                if (Math.abs(a[row][column]) > MOST_A) {
                    return true;
                }
            }
            return Math.abs(b[row]) > MOST_B;
        }

        boolean solvedBy(int[] vector, boolean isHomogeneous) {
            for (int row = 0; row < rows; row++) {
                int sum = isHomogeneous ? 0 : -b[row];
                for (int column = 0; column < columns(); column++) {
                    sum += a[row][column] * vector[column];
                }
                if (sum != 0) {
                    return false;
                }
            }
            return true;
        }
    }

    /** Puts together the rows that the words of a system tell, beside the system that a fault must leave. */
    private static final class Builder {
        private Equations result = new Equations();
        private int row = 0;
        private int side = 1;
        private int sign = 1;
        // The number that may yet turn out to stand in front of a variable.
        private int open = NONE;
        private int relation = Words.EQUAL;
        private int relationPlace = NONE;
        private int faultPlace = NONE;

        int build(Words words) {
            result.clear();
            faultPlace = NONE;
            int fault = NO_FAULT;
            for (int i = 0; i < words.total && fault == NO_FAULT; i++) {
                if (i == 0 || words.kinds[i - 1] == Words.SEMICOLON) {
                    fault = beginRow(words.places[i]);
                }
                if (fault == NO_FAULT) {
                    fault = add(words.kinds[i], words.values[i], words.places[i]);
                }
            }
            if (fault == NO_FAULT) {
                fault = endRow();
            }
            result.placeSlacks();
            return fault;
        }

        /** Hands out what was built last, and builds the next one in place of the one given. */
        Equations exchange(Equations old) {
            Equations built = result;
            result = old;
            return built;
        }

        private int beginRow(int at) {
            if (result.rows >= MOST_ROWS) {
                return fault(MANY, at);
            }
            row = result.rows;
            result.rows++;
            side = 1;
            beginTerm(1);
            return NO_FAULT;
        }

        private void beginTerm(int signOfIt) {
            sign = signOfIt;
            open = NONE;
        }

        private int add(int kind, int value, int at) {
            switch (kind) {
                case Words.NUMBER:
                    open = value;
                    return NO_FAULT;
                case Words.VARIABLE:
                    return addVariable(value, at);
                case Words.PLUS:
                case Words.MINUS:
                    endTerm();
                    beginTerm(kind == Words.PLUS ? 1 : -1);
                    return NO_FAULT;
                case Words.SEMICOLON:
                    return endRow();
                case Words.EQUAL:
                case Words.AT_MOST:
                case Words.AT_LEAST:
                    endTerm();
                    beginTerm(1);
                    side = -1;
                    relation = kind;
                    relationPlace = at;
                    return NO_FAULT;
                default:
                    return NO_FAULT;
            }
        }

        private int addVariable(int letterOfIt, int at) {
            int column = result.columnOf(letterOfIt);
            if (column == NONE) {
                return fault(MANY, at);
            }
            result.a[row][column] += side * sign * (open == NONE ? 1 : open);
            open = NONE;
            return NO_FAULT;
        }

        private void endTerm() {
            if (open != NONE) {
                result.b[row] -= side * sign * open;
            }
        }

        private int endRow() {
            endTerm();
            if (relation != Words.EQUAL) {
                if (result.isFull()) {
                    return fault(MANY, relationPlace);
                }
                result.addSlack(row, relation == Words.AT_MOST ? 1 : -1);
            }
            return result.isLarge(row) ? fault(LARGE, relationPlace) : NO_FAULT;
        }

        private int fault(int kind, int at) {
            faultPlace = at;
            return kind;
        }
    }

    /**
     * The whole combinations of all (A x, x), as rows of which each leads farther behind than the
     * one before. Those that lead behind A x are the kernel's basis; the others tell what A x can be.
     */
    private static final class Lattice {
        private static final int MOST_WIDTH = MOST_ROWS + MOST_COLUMNS;
        // Euclid's algorithm on two longs needs fewer steps.
        private static final int MOST_STEPS = 100;

        private final long[][] basis = new long[MOST_COLUMNS][MOST_WIDTH];
        private final int[] rowLeadingAt = new int[MOST_WIDTH];
        private final int[] kernelRows = new int[MOST_COLUMNS];
        private final long[] target = new long[MOST_ROWS];
        private final long[] fresh = new long[MOST_WIDTH];
        private int kernelVectors = 0;
        private int height = 0;
        private int width = 0;
        private int used = 0;

        void build(Equations system) {
            height = system.rows;
            width = system.rows + system.columns();
            used = 0;
            Arrays.fill(rowLeadingAt, NONE);
            for (int column = 0; column < system.columns(); column++) {
                Arrays.fill(fresh, 0);
                for (int row = 0; row < height; row++) {
                    fresh[row] = system.a[row][column];
                }
                fresh[height + column] = 1;
                insertFresh();
                reduceAll();
            }
            findKernel();
        }

        /** Reduces after each step, so that the numbers stay far below what a long can hold. */
        private void insertFresh() {
            for (int at = 0; at < width && used < MOST_COLUMNS; at++) {
                if (fresh[at] == 0) {
                    continue;
                }
                int row = rowLeadingAt[at];
                if (row == NONE) {
                    placeFresh(at);
                    return;
                }
                joinFresh(row, at);
                makeLeadPositive(row, at);
                reduce(basis[row], at);
                reduce(fresh, at);
            }
        }

        private void placeFresh(int at) {
            swapFresh(used);
            makeLeadPositive(used, at);
            rowLeadingAt[at] = used;
            used++;
        }

        /** Leaves the row with the greatest common divisor at the place, and the fresh vector with 0. */
        private void joinFresh(int row, int at) {
            for (int step = 0; step < MOST_STEPS && fresh[at] != 0; step++) {
                takeTimes(basis[row], fresh, basis[row][at] / fresh[at]);
                swapFresh(row);
            }
        }

        private void swapFresh(int row) {
            for (int i = 0; i < width; i++) {
                long before = basis[row][i];
                basis[row][i] = fresh[i];
                fresh[i] = before;
            }
        }

        private void makeLeadPositive(int row, int at) {
            if (basis[row][at] < 0) {
                for (int i = 0; i < width; i++) {
                    basis[row][i] = -basis[row][i];
                }
            }
        }

        private void reduceAll() {
            for (int at = width - 1; at >= 0; at--) {
                if (rowLeadingAt[at] != NONE) {
                    reduce(basis[rowLeadingAt[at]], at);
                }
            }
        }

        /** Brings the numbers behind a place, where a row leads, to 0 .. below that lead. */
        private void reduce(long[] vector, int behind) {
            for (int at = behind + 1; at < width; at++) {
                int row = rowLeadingAt[at];
                if (row != NONE && basis[row][at] > 0) {
                    takeTimes(vector, basis[row], Math.floorDiv(vector[at], basis[row][at]));
                }
            }
        }

        private void takeTimes(long[] vector, long[] other, long often) {
            if (often != 0) {
                for (int i = 0; i < width; i++) {
                    vector[i] -= often * other[i];
                }
            }
        }

        private void findKernel() {
            kernelVectors = 0;
            for (int at = height; at < width; at++) {
                if (rowLeadingAt[at] != NONE && kernelVectors < MOST_COLUMNS) {
                    kernelRows[kernelVectors] = rowLeadingAt[at];
                    kernelVectors++;
                }
            }
        }

        long kernelNumber(int i, int column) {
            return basis[kernelRows[i]][height + column];
        }

        boolean reaches(Equations system) {
            for (int row = 0; row < height; row++) {
                target[row] = system.b[row];
            }
            for (int at = 0; at < height; at++) {
                if (target[at] != 0 && !takeFromTarget(at)) {
                    return false;
                }
            }
            return true;
        }

        private boolean takeFromTarget(int at) {
            int row = rowLeadingAt[at];
            if (row == NONE || basis[row][at] <= 0 || target[at] % basis[row][at] != 0) {
                return false;
            }
            long often = target[at] / basis[row][at];
            for (int i = at; i < height; i++) {
                target[i] -= often * basis[row][i];
            }
            return true;
        }
    }

    /** What is done with each vector that a search finds. */
    private abstract static class Taker {
        abstract void beginSize();

        /** Whether the search shall go on. */
        abstract boolean take(int[] vector);
    }

    /** Finds vectors by size, and those of the same size by columns. */
    private static final class Search {
        private final int[] vector = new int[MOST_COLUMNS];
        // What each row still lacks.
        private final int[] lack = new int[MOST_ROWS];
        // The least and the greatest number that a column from here on adds to a row for each 1 of size.
        private final int[][] lowest = new int[MOST_ROWS][MOST_COLUMNS + 1];
        private final int[][] highest = new int[MOST_ROWS][MOST_COLUMNS + 1];
        private final int[][] a = new int[MOST_ROWS][MOST_COLUMNS];
        private int rows = 0;
        private int columns = 0;
        private boolean isSigned = false;

        void prepare(Equations system, boolean isHomogeneous, boolean isSignedToo) {
            rows = system.rows;
            columns = system.columns();
            isSigned = isSignedToo;
            for (int row = 0; row < rows; row++) {
                System.arraycopy(system.a[row], 0, a[row], 0, MOST_COLUMNS);
                lack[row] = isHomogeneous ? 0 : system.b[row];
                findReach(row);
            }
        }

        private void findReach(int row) {
            for (int column = columns - 1; column >= 0; column--) {
                int most = isSigned ? Math.abs(a[row][column]) : a[row][column];
                int least = isSigned ? -most : most;
                boolean isLast = column == columns - 1;
                lowest[row][column] = isLast ? least : Math.min(least, lowest[row][column + 1]);
                highest[row][column] = isLast ? most : Math.max(most, highest[row][column + 1]);
            }
        }

        void run(int from, int bound, Taker taker) {
            boolean goesOn = true;
            for (int size = from; size <= bound && goesOn; size++) {
                taker.beginSize();
                goesOn = fill(0, size, false, taker);
            }
        }

        /** Goes one column deeper with each call; says whether the search goes on. */
        private boolean fill(int column, int size, boolean hasLead, Taker taker) {
            if (!canBeFilled(column, size)) {
                return true;
            }
            if (column >= columns) {
                return taker.take(vector);
            }
            boolean isLast = column == columns - 1;
            int first = isSigned && hasLead ? -size : isLast ? size : 0;
            int step = isLast ? Math.max(1, size - first) : 1;
            boolean goesOn = true;
            for (int number = first; number <= size && goesOn; number += step) {
                put(column, number);
                goesOn = fill(column + 1, size - Math.abs(number), hasLead || number != 0, taker);
            }
            put(column, 0);
            return goesOn;
        }

        /** Whether the columns from here on, of this size together, may give each row what it lacks. */
        private boolean canBeFilled(int column, int size) {
            if (column >= columns && size != 0) {
                return false;
            }
            for (int row = 0; row < rows; row++) {
                if (lack[row] < size * lowest[row][column] || lack[row] > size * highest[row][column]) {
                    return false;
                }
            }
            return true;
        }

        private void put(int column, int number) {
            int more = number - vector[column];
            vector[column] = number;
            for (int row = 0; row < rows; row++) {
                lack[row] -= more * a[row][column];
            }
        }
    }

    /** Of the vectors that it is given, by size, those that have none before them within. */
    private static final class VectorList extends Taker {
        private final byte[] numbers = new byte[MOST_VECTORS * MOST_COLUMNS];
        private boolean isThere = false;
        private int columns = 0;
        private int bound = 0;
        private int total = 0;
        // How many are of a lesser size: none of the same size can be within another.
        private int lesser = 0;

        void begin(int columnsOfAll, int boundOfAll) {
            columns = columnsOfAll;
            bound = boundOfAll;
            total = 0;
            isThere = true;
        }

        void drop() {
            isThere = false;
        }

        boolean has(int i) {
            return isThere && i >= 0 && i < total;
        }

        int numberOf(int i, int column) {
            return numbers[i * MOST_COLUMNS + column];
        }

        void beginSize() {
            lesser = total;
        }

        boolean take(int[] vector) {
            if (hasOneWithin(vector)) {
                return true;
            }
            if (total >= MOST_VECTORS) {
                drop();
                return false;
            }
            for (int column = 0; column < columns; column++) {
                numbers[total * MOST_COLUMNS + column] = (byte) vector[column];
            }
            total++;
            return true;
        }

        /**
         * The signed vectors need not be looked at with the other sign: a vector that is not in the
         * list is the sum of some that are, each within it, and one of these leads where it does.
         */
        private boolean hasOneWithin(int[] vector) {
            for (int i = 0; i < lesser; i++) {
                if (isWithin(i, vector)) {
                    return true;
                }
            }
            return false;
        }

        /** Whether each number of vector i is from 0 to that of the vector. */
        boolean isWithin(int i, int[] vector) {
            int start = i * MOST_COLUMNS;
            for (int column = 0; column < columns; column++) {
                int inner = numbers[start + column];
                int outer = vector[column];
                if (outer >= 0 ? inner < 0 || inner > outer : inner > 0 || inner < outer) {
                    return false;
                }
            }
            return true;
        }

        int firstWithin(int[] vector) {
            for (int i = 0; i < total; i++) {
                if (isWithin(i, vector)) {
                    return i;
                }
            }
            return NONE;
        }

        void takeFrom(int[] vector, int i) {
            for (int column = 0; column < columns; column++) {
                vector[column] -= numberOf(i, column);
            }
        }
    }

    /** Of the vectors that it is given the cheapest one, of several the first one by columns. */
    private static final class Cheapest extends Taker {
        private final int[] vector = new int[MOST_COLUMNS];
        private final int[] costs = new int[MOST_COLUMNS];
        private int columns = 0;
        private int price = 0;
        private boolean isFound = false;

        void begin(int columnsOfAll) {
            columns = columnsOfAll;
            isFound = false;
        }

        void beginSize() {
            // Sizes do not count here.
        }

        boolean take(int[] other) {
            int priceOfOther = priceOf(other);
            if (!isFound || priceOfOther < price || priceOfOther == price && isBefore(other)) {
                System.arraycopy(other, 0, vector, 0, MOST_COLUMNS);
                price = priceOfOther;
                isFound = true;
            }
            return true;
        }

        private int priceOf(int[] other) {
            int sum = 0;
            for (int column = 0; column < columns; column++) {
                sum += costs[column] * other[column];
            }
            return sum;
        }

        private boolean isBefore(int[] other) {
            for (int column = 0; column < columns; column++) {
                if (other[column] != vector[column]) {
                    return other[column] < vector[column];
                }
            }
            return false;
        }
    }
}
