/** The text and promises 1 to 7: each sentence of the document that names a boundary case. */
public final class TextEdgeTest {
    private static final int NONE = LeastSolutions.NONE;
    private static final int[] FAR = {Integer.MIN_VALUE, Integer.MIN_VALUE + 1, -1000, -1, 7, 1000,
        Integer.MAX_VALUE - 1, Integer.MAX_VALUE};

    public static void main(String[] args) {
        words();
        sums();
        columns();
        noneOfIt();
        many();
        large();
        orderOfFaults();
        newObject();
        type();
        read();
        place();
        asked();
        Due.end("TextEdgeTest");
    }

    private static LeastSolutions fresh(String text, int fault, int place) {
        LeastSolutions x = new LeastSolutions();
        Due.fault(x, text, fault, place);
        return x;
    }

    /** A text that is a system, with the numbers of its rows, B as the last ones. */
    private static void rows(String text, int[]... due) {
        LeastSolutions x = fresh(text, 0, NONE);
        Due.answer("rows of '" + text + "'", x.count(0), due.length);
        for (int row = 0; row < due.length; row++) {
            Due.answer("columns of '" + text + "'", x.count(1), due[row].length - 1);
            for (int column = 0; column < due[row].length; column++) {
                Due.answer("number(" + row + ", " + column + ") of '" + text + "'", x.number(row, column),
                        due[row][column]);
            }
        }
    }

    private static int[] row(int... numbers) {
        return numbers;
    }

    // The words

    private static void words() {
        wordsAreLong();
        numbers();
        variables();
        blanks();
    }

    private static void wordsAreLong() {
        Due.sentence(0, "Its WORDS are as long as can be");
        rows("a<=1", row(1, 1, 1));
        rows("a>=1", row(1, -1, 1));
        rows("12a=34", row(12, 34));
        rows("9999=9999", row(0));
        fresh("a<==1", 1, 3);
        fresh("a>==1", 1, 3);
        fresh("a==1", 1, 2);
        fresh("a=<=1", 1, 2);
        fresh("a<>=1", 1, 1);
        fresh("a=12345", 1, 2);
    }

    private static void numbers() {
        Due.sentence(0, "a NUMBER, decimal digits, 4 at most (more of them are no word)");
        rows("0a=0", row(0, 0));
        rows("7a=200", row(7, 200));
        rows("0007a=0200", row(7, 200));
        rows("9999a=9998a+9999-9999", row(1, 0));
        fresh("a=00000", 1, 2);
        fresh("a=00001", 1, 2);
        fresh("  10000=a", 1, 2);
        fresh("a=1;12345a=1", 1, 4);
        fresh("a+12345", 1, 2);
        fresh("2*12345", 1, 2);
        fresh("a=1" + " ".repeat(292) + "12345", 1, 295);
        fresh("1".repeat(300), 1, 0);
        fresh("a=/", 1, 2);
        fresh("a=:", 1, 2);
    }

    private static void variables() {
        Due.sentence(0, "a VARIABLE, one letter a .. z");
        for (char letter = 'a'; letter <= 'z'; letter++) {
            LeastSolutions x = fresh("3" + letter + "=1", 0, NONE);
            Due.answer("letter(0)", x.letter(0), letter);
        }
        for (char other : new char[] {'`', '{', 'A', 'Z', '@', '[', '_', '~', '.', ',', '(', ')', '/', '<', '>'}) {
            fresh(other + "=1", 1, 0);
            fresh("1=2" + other, 1, 3);
        }
        fresh("ab=1", 1, 1);
        fresh("2ab=1", 1, 2);
    }

    private static void blanks() {
        Due.sentence(0, "blanks stand for nothing");
        rows("-2*a+b<=3-a;b=4", row(-1, 1, 1, 3), row(0, 1, 0, 4));
        rows("   -   2  *  a  +  b  <=  3  -  a  ;  b  =  4   ", row(-1, 1, 1, 3), row(0, 1, 0, 4));
        rows(" ".repeat(150) + "a=1" + " ".repeat(147), row(1, 1));
        fresh("a< =1", 1, 1);
        fresh("a> =1", 1, 1);
        fresh("a=1 2", 1, 4);
        fresh("a b=1", 1, 2);
        fresh("a=9999 9", 1, 7);
    }

    private static void sums() {
        Due.sentence(0, "{ } any number of times, [ ] or not");
        rows("1=1", row(0));
        rows("-1=-1", row(0));
        rows("a=b", row(1, -1, 0));
        rows("-a=-b", row(-1, 1, 0));
        rows("2a=2*a", row(0, 0));
        rows("1-".repeat(148) + "1=1", row(148));
        rows("a-a+".repeat(74) + "b=1", row(0, 1, 1));
        rows("a=1;a=1;a=1;a=1", row(1, 1), row(1, 1), row(1, 1), row(1, 1));
    }

    private static void columns() {
        Due.sentence(0, "COLUMNS are its variables, in the order in which they come up, then .. a SLACK");
        LeastSolutions x = fresh("1>=z;b<=a+0y", 0, NONE);
        Due.answer("columns", x.count(1), 6);
        String letters = "zbay";
        for (int column = 0; column < 6; column++) {
            Due.answer("letter(" + column + ")", x.letter(column), column < 4 ? letters.charAt(column) : NONE);
        }
        Due.sentence(0, "the A of its own slack is 1 for '<=', -1 for '>='; of others 0");
        rows("a<=1;a=1;a>=1;a<=2", row(1, 1, 0, 0, 1), row(1, 0, 0, 0, 1), row(1, 0, -1, 0, 1), row(1, 0, 0, 1, 2));
        rows("1<=2;2>=1;b=b;3<=4", row(0, 1, 0, 0, 1), row(0, 0, -1, 0, -1), row(0, 0, 0, 0, 0), row(0, 0, 0, 1, 1));
        Due.sentence(0, "the A of a variable is the numbers in front of it (1 where there is none)");
        rows("a+a+2a=a", row(3, 0));
        rows("0a=a", row(-1, 0));
        rows("-a=0*a-20a", row(19, 0));
        Due.sentence(0, "B the numbers that stand alone on the right side less those on the left one");
        rows("1-2+a=3-4", row(1, 0));
        rows("-200=a", row(-1, 200));
        rows("5=0", row(-5));
    }

    // The faults

    /** Before each text the words that may follow it; "." if it may end there. */
    private static final String[][] STANDS = {
        {"", "1 a -"},
        {"a=1;", "1 a -"},
        {"a=", "1 a -"},
        {"a<=", "1 a -"},
        {"a=1;b>=", "1 a -"},
        {"-", "1 a"},
        {"a+", "1 a"},
        {"2-", "1 a"},
        {"a=-", "1 a"},
        {"a=2a+", "1 a"},
        {"2", "a * + - = <= >="},
        {"a-2", "a * + - = <= >="},
        {"a=1;-2", "a * + - = <= >="},
        {"a=2", "a * + - ; ."},
        {"a>=-2", "a * + - ; ."},
        {"a=b+2", "a * + - ; ."},
        {"2*", "a"},
        {"a=2*", "a"},
        {"a", "+ - = <= >="},
        {"2a", "+ - = <= >="},
        {"2*a", "+ - = <= >="},
        {"a=1;a-b", "+ - = <= >="},
        {"a=b", "+ - ; ."},
        {"a<=2b", "+ - ; ."},
        {"a=1;2>=3*b", "+ - ; ."},
    };
    private static final String[] WORDS = {"1", "a", "+", "-", "*", ";", "=", "<=", ">="};
    private static final String[] NO_WORDS = {"12345", "<", ">", "!", "A", "~", "^"};

    private static boolean stands(String[] state, String word) {
        return (" " + state[1] + " ").contains(" " + word + " ");
    }

    private static void noneOfIt() {
        Due.sentence(0, "1 NONE OF IT: the first word that can't stand .. where it begins");
        for (String[] state : STANDS) {
            for (String word : WORDS) {
                String text = state[0] + "  " + word;
                // What stands is not the first word that can't, the sign behind it is.
                fresh(text + " !", 1, stands(state, word) ? text.length() + 1 : state[0].length() + 2);
            }
        }
        fresh("a=1 b=2 ;;", 1, 5);
        Due.sentence(0, "or is none, where it begins");
        for (String[] state : STANDS) {
            for (String word : NO_WORDS) {
                fresh(state[0] + " " + word + "a=1", 1, state[0].length() + 1);
            }
        }
        fresh(" ".repeat(299) + "!", 1, 299);
        fresh("a=1" + " ".repeat(296) + "<", 1, 299);
        endsTooEarly();
    }

    private static void endsTooEarly() {
        Due.sentence(0, "its length, if it ends too early");
        for (String[] state : STANDS) {
            for (String end : new String[] {"", " ", "    "}) {
                String text = state[0] + end;
                boolean isWhole = stands(state, ".");
                fresh(text, isWhole ? 0 : 1, isWhole ? NONE : text.length());
            }
        }
        fresh("", 1, 0);
        fresh(" ", 1, 1);
        fresh(" ".repeat(300), 1, 300);
        fresh("1+".repeat(150), 1, 300);
        fresh("a=1;" + " ".repeat(296), 1, 300);
    }

    private static void many() {
        Due.sentence(0, "2 MANY: the row is the fifth one (at its first word)");
        fresh("a=1;a=1;a=1;a=1", 0, NONE);
        fresh("a=1;a=1;a=1;a=1;a=1", 2, 16);
        fresh("a=1;a=1;a=1;a=1 ;   - a=1", 2, 20);
        fresh("1=1;1=1;1=1;1=1;  1=1", 2, 18);
        fresh("a=1;a=1;a=1;a=1;a=1;a=1;a=1", 2, 16);
        fresh("a=1;a=1;a=1;a=1;b+c+d+e+f+g=1", 2, 16);
        Due.sentence(0, "a variable (at it) .. would be the seventh column of those so far");
        fresh("a+b+c+d+e+f=1", 0, NONE);
        fresh("a+b+c+d+e+f=f+e+d+c+b+a", 0, NONE);
        fresh("a+b+c+d+e+f+g=1", 2, 12);
        fresh("a+b+c+d+e+f-0 * g=1", 2, 16);
        fresh("a+b+c=d+e+f+g", 2, 12);
        fresh("a=b;c=d;e=f;a=g", 2, 14);
        fresh("a+b+c<=1;d=1;e=1;a=e", 0, NONE);
        fresh("a+b+c<=1;d=1;e=1;f=1", 2, 17);
        fresh("a<=1;a<=2;b+c+d+e+f=1", 2, 16);
        fresh("a<=1;a<=2;b+c+d=1;a=2e", 2, 21);
        fresh("a+b+c+d+e<=1;a=f", 2, 15);
        Due.sentence(0, "or, when the row is over, its slack (at its '<=' or '>=')");
        fresh("a+b+c+d+e<=1", 0, NONE);
        fresh("a+b+c+d+e+f<=1", 2, 11);
        fresh("a+b+c+d+e+f>=1", 2, 11);
        fresh("a+b+c+d+e >= f", 2, 10);
        fresh("a+b+c<=d+e+f+g", 2, 13);
        fresh("a+b+c+d+e+f=1;a=1;1 >= 1", 2, 20);
        fresh("a+b<=1;a>=1;a<=2;a>=2", 0, NONE);
        fresh("a+b<=1;a>=1;a<=2;a>=c", 2, 18);
        fresh("a+b+c<=1;a>=1;a<=2;a>=2", 2, 20);
        fresh("a+b+c<=1;d=1;e>=1;f=1", 2, 14);
    }

    private static void large() {
        Due.sentence(0, "3 LARGE: when the row is over, some A of it is beyond 20 .. in size");
        fresh("20a=1", 0, NONE);
        fresh("-20a=1", 0, NONE);
        fresh("21a=1", 3, 3);
        fresh("-21a=1", 3, 4);
        fresh("1=21a", 3, 1);
        fresh("1=-21a", 3, 1);
        fresh("a<=-20a", 3, 1);
        fresh("a>=21a", 0, NONE);
        fresh("a+20b+c=20d+20e+21f", 3, 7);
        fresh("20a=1;20a=1;20a=1;20a+a=1", 3, 23);
        fresh("9999a-9999a=1", 0, NONE);
        fresh("9999a+9999a+9999a=1", 3, 17);
        fresh("9999a+".repeat(49) + "a=1", 3, 295);
        Due.sentence(0, "or its B beyond 200, in size");
        fresh("a=200", 0, NONE);
        fresh("a=-200", 0, NONE);
        fresh("a=201", 3, 1);
        fresh("a=-201", 3, 1);
        fresh("201 <= a", 3, 4);
        fresh("-201 >= a", 3, 5);
        fresh("a+100=300", 0, NONE);
        fresh("a+100=301", 3, 5);
        fresh("a-100=101", 3, 5);
        fresh("9999-9999=a+9999-9999", 0, NONE);
        fresh("9999+".repeat(58) + "9999=a-9", 3, 294);
        fresh("a=1;a=1;a=1;a=1-202", 3, 13);
    }

    private static void orderOfFaults() {
        Due.sentence(0, "If the text is a system, row after row");
        fresh("21a=1;a+b+c+d+e+f+g=1;a==1", 1, 24);
        fresh("a+b+c+d+e+f+g=1;a=1;", 1, 20);
        fresh("21a=201;", 1, 8);
        fresh("21a=1;a+b+c+d+e+f+g=1", 3, 3);
        fresh("a=1;21a=1;a=201;a=1;a=1", 3, 7);
        fresh("a=1;a=1;a=1;a=201;a=1", 3, 13);
        fresh("a+b+c+d+e+f+g=1;21a=1", 2, 12);
        fresh("a+b+c+d+e+f=1;a<=1;a=201", 2, 15);
        fresh("a=1;a=1;a=1;a=1;21a=1", 2, 16);
        Due.sentence(0, "MANY before LARGE");
        fresh("21a+b+c+d+e+f+g=1", 2, 14);
        fresh("21a+b+c+d+e+f=g", 2, 14);
        fresh("a+b+c+d+e+f<=201", 2, 11);
        fresh("21a+b+c+d+e+f>=201", 2, 13);
    }

    // Promises 1 and 2

    private static void newObject() {
        Due.sentence(1, "No text, no system");
        LeastSolutions x = new LeastSolutions();
        Due.answer("place()", x.place(), NONE);
        for (int what = 0; what <= 2; what++) {
            int list = what;
            Due.answer("count()", x.count(what), NONE);
            Due.noState("work()", () -> x.work(list, 0));
            Due.noIndex("at()", () -> x.at(list, 0, 0));
        }
        Due.answer("letter()", x.letter(0), NONE);
        Due.noIndex("number()", () -> x.number(0, 0));
        Due.noState("solvable()", x::solvable);
        Due.noState("kernel()", x::kernel);
        Due.noIndex("kernelAt()", () -> x.kernelAt(0, 0));
        Due.noState("holds()", x::holds);
        Due.answer("split()", x.split(), NONE);
        Due.answer("times()", x.times(0), NONE);
        Due.noState("best()", () -> x.best(0));
        Due.answer("bestAt()", x.bestAt(0), NONE);
        Due.answer("type()", x.type('1', 1), 1);
        fresh("", 1, 0);
    }

    private static void type() {
        lowestBytes();
        numberOfCharacters();
        characters();
        fullText();
    }

    private static void lowestBytes() {
        Due.sentence(2, "the lowest n bytes of a number, the highest of them first: its length");
        LeastSolutions x = new LeastSolutions();
        Due.answer("type()", x.type(0x6162633c3d313233L, 5), 5);
        Due.answer("type()", x.type(0xff00000000000034L, 1), 6);
        Due.answer("read()", x.read(), 1);
        Due.answer("place() of '<=1234'", x.place(), 0);
        Due.answer("type()", x.type(0x31322d61623d3b3dL, 1), 1);
        Due.answer("read()", x.read(), 1);
        Due.answer("place() of '='", x.place(), 0);
        Due.answer("type()", x.type(0x3661203c3d203132L, 8), 8);
        Due.answer("read() of '6a <= 12'", x.read(), 0);
        Due.answer("number(0, 0)", x.number(0, 0), 6);
        Due.answer("number(0, 2)", x.number(0, 2), 12);
        for (int n = 1; n <= 8; n++) {
            LeastSolutions y = new LeastSolutions();
            // The bytes above the lowest n ones are no characters of a text, and do not count.
            long above = n == 8 ? 0 : -1L << 8 * n;
            Due.answer("type(.., " + n + ")", y.type(above | 0x2020202020202020L & ~above, n), n);
        }
    }

    private static void numberOfCharacters() {
        Due.sentence(2, "NONE, and nothing is put, when n is not 1 .. 8");
        LeastSolutions x = new LeastSolutions();
        long blanks = Due.packed("        ");
        for (int n : new int[] {0, 9, -1, -8, 16, 256, 257, Integer.MIN_VALUE, Integer.MIN_VALUE + 1,
            Integer.MAX_VALUE, -7}) {
            Due.answer("type(.., " + n + ")", x.type(blanks, n), NONE);
        }
        int length = 0;
        for (int n = 1; n <= 8; n++) {
            length += n;
            Due.answer("type(.., " + n + ")", x.type(blanks, n), length);
        }
        Due.answer("type(.., 0)", x.type(blanks, 0), NONE);
        Due.answer("type(.., 9)", x.type(blanks, 9), NONE);
        Due.answer("read()", x.read(), 1);
        Due.answer("place()", x.place(), 36);
    }

    private static void characters() {
        Due.sentence(2, "NONE, and nothing is put, when .. one is not 32 .. 126");
        LeastSolutions x = new LeastSolutions();
        int length = 0;
        for (int character = 0; character < 256; character++) {
            boolean isOne = character >= 32 && character <= 126;
            length += isOne ? 1 : 0;
            Due.answer("type(" + character + ", 1)", x.type(character, 1), isOne ? length : NONE);
        }
        for (int n = 1; n <= 8; n++) {
            LeastSolutions y = new LeastSolutions();
            for (int at = 0; at < n; at++) {
                for (long wrong : new long[] {0, 31, 127, 128, 160, 255}) {
                    long typed = 0x2020202020202020L & ~(255L << 8 * at) | wrong << 8 * at;
                    Due.answer("type(" + typed + ", " + n + ")", y.type(typed, n), NONE);
                }
            }
            Due.answer("type()", y.type('a', 1), 1);
        }
        LeastSolutions z = new LeastSolutions();
        Due.type(z, "a=1");
        Due.answer("type()", z.type(Due.packed("+1\u007f"), 3), NONE);
        Due.answer("type()", z.type(Due.packed("\u001f+1"), 3), NONE);
        Due.answer("read()", z.read(), 0);
        Due.answer("number(0, 1)", z.number(0, 1), 1);
    }

    private static void fullText() {
        Due.sentence(2, "NONE, and nothing is put, when .. there would be more than 300");
        for (int n = 1; n <= 8; n++) {
            LeastSolutions x = new LeastSolutions();
            Due.type(x, "a=1" + " ".repeat(300 - 3 - n + 1));
            long pluses = Due.packed("++++++++");
            Due.answer("type(.., " + n + ")", x.type(pluses, n), NONE);
            Due.answer("type(.., 8)", x.type(pluses, 8), NONE);
            if (n > 1) {
                Due.answer("type(.., " + (n - 1) + ")", x.type(Due.packed("        "), n - 1), 300);
            }
            Due.answer("type(.., 1) to a full text", x.type('+', 1), NONE);
            Due.answer("type(.., 8) to a full text", x.type(pluses, 8), NONE);
            Due.answer("read()", x.read(), 0);
            Due.answer("type(.., 8) to an empty text", x.type(pluses, 8), 8);
        }
        rows("a+".repeat(15) + " ".repeat(267) + "a=1", row(16, 1));
    }

    // Promises 3 and 4

    private static void read() {
        Due.sentence(3, "The text becomes the system, and is empty then (with a fault, too)");
        LeastSolutions x = fresh("a=1", 0, NONE);
        Due.answer("type() after read()", x.type(' ', 1), 1);
        Due.fault(x, "a=", 1, 3);
        Due.answer("type() after fault 1", x.type(' ', 1), 1);
        Due.fault(x, "a+b+c+d+e+f+g=1", 2, 13);
        Due.answer("type() after fault 2", x.type(' ', 1), 1);
        Due.fault(x, "21a=1", 3, 4);
        Due.answer("type() after fault 3", x.type(' ', 1), 1);
        Due.fault(x, "", 1, 1);
        Due.fault(x, "", 1, 0);
        Due.sentence(3, "or its fault (the system there was stays)");
        for (String wrong : new String[] {"", "q=", "q+b+c+d+e+f+g=1", "q=1;q=1;q=1;q=1;q=1", "q<=1;21q=5"}) {
            LeastSolutions y = Due.system("2u-3v<=4;v>=1");
            Due.type(y, wrong);
            Due.holds("read() of '" + wrong + "' is a fault", y.read() > 0);
            int[][] due = {{2, -3, 1, 0, 4}, {0, 1, 0, -1, 1}};
            for (int i = 0; i < 10; i++) {
                Due.answer("number() after a fault", y.number(i / 5, i % 5), due[i / 5][i % 5]);
            }
            Due.answer("letter() after a fault", y.letter(0), 'u');
            Due.answer("rows after a fault", y.count(0), 2);
            Due.answer("variables after a fault", y.count(2), 2);
            Due.answer("kernelAt() after a fault", y.kernelAt(0, 2), -2);
            LeastSolutions z = new LeastSolutions();
            Due.type(z, wrong);
            z.read();
            Due.answer("without a system there is none after a fault", z.count(0), NONE);
            Due.noState("solvable() after a fault", z::solvable);
        }
        whatIsGone();
    }

    private static void whatIsGone() {
        Due.sentence(3, "With 0 all lists are gone, the vector that is told and all costs are 0");
        LeastSolutions x = Due.system("a+b=c+d");
        for (int what = 0; what <= 2; what++) {
            Due.holds("work()", x.work(what, 6) > 0);
        }
        Due.tell(x, 1, 2, 3, 4);
        for (int column = 0; column < 4; column++) {
            x.cost(column, -1 - column);
        }
        Due.holds("best()", x.best(8) < 0);
        Due.fault(x, "a+b=c+d", 0, NONE);
        for (int what = 0; what <= 2; what++) {
            int list = what;
            Due.noIndex("at(" + what + ", 0, 0)", () -> x.at(list, 0, 0));
        }
        for (int column = 0; column < 4; column++) {
            // All others must be 0 for this one to be told alone.
            Due.answer("the vector is 0", x.holds(), 7);
            x.tell(column, 1);
            Due.answer("the vector is not 0", x.holds(), 4);
            x.tell(column, 0);
        }
        Due.answer("all costs are 0", x.best(16), 0);
        Due.answer("all costs are 0, so the first one by columns", x.bestAt(3), 0);
        x.work(0, 6);
        Due.answer("split() without the other list", x.split(), NONE);
    }

    private static void place() {
        Due.sentence(4, "The place of the fault of the latest read(); NONE when it had none, and before");
        LeastSolutions x = new LeastSolutions();
        Due.answer("place() before", x.place(), NONE);
        Due.type(x, "a+");
        Due.answer("place() before read()", x.place(), NONE);
        Due.answer("read()", x.read(), 1);
        Due.answer("place()", x.place(), 2);
        Due.type(x, "b=1");
        Due.answer("place() stays while the next text is typed", x.place(), 2);
        Due.answer("read()", x.read(), 0);
        Due.answer("place() of none", x.place(), NONE);
        Due.fault(x, "!", 1, 0);
        Due.fault(x, "  a=300", 3, 3);
        Due.fault(x, "a+b+c+d+e+f=g", 2, 12);
        x.work(0, 3);
        Due.answer("place() stays while the system is used", x.place(), 12);
        Due.fault(x, "b=1", 0, NONE);
    }

    // Promises 5 to 7

    private static void asked() {
        LeastSolutions none = new LeastSolutions();
        LeastSolutions x = Due.system("a+b<=3;b-c>=-4");
        LeastSolutions full = Due.system("a+b=1;c+d=2;e+f=3;a=4");
        LeastSolutions empty = Due.system("1=2");
        Due.sentence(5, "NONE for others, or without one");
        for (int what : new int[] {-1, 3, 4, Integer.MIN_VALUE, Integer.MAX_VALUE}) {
            Due.answer("count(" + what + ")", x.count(what), NONE);
            Due.answer("count(" + what + ") without a system", none.count(what), NONE);
        }
        int[][] counts = {{2, 5, 3}, {4, 6, 6}, {1, 0, 0}};
        for (int what = 0; what <= 2; what++) {
            Due.answer("count(" + what + ") without a system", none.count(what), NONE);
            Due.answer("count(" + what + ")", x.count(what), counts[0][what]);
            Due.answer("count(" + what + ") of a full system", full.count(what), counts[1][what]);
            Due.answer("count(" + what + ") without variables", empty.count(what), counts[2][what]);
        }
        Due.sentence(6, "The letter of a column that is a variable; NONE for others");
        for (int column = -1; column <= 7; column++) {
            boolean isOne = column >= 0 && column < 6;
            Due.answer("letter(" + column + ")", x.letter(column), isOne && column < 3 ? 'a' + column : NONE);
            Due.answer("letter(" + column + ") of a full system", full.letter(column), isOne ? 'a' + column : NONE);
            Due.answer("letter(" + column + ") without variables", empty.letter(column), NONE);
            Due.answer("letter(" + column + ") without a system", none.letter(column), NONE);
        }
        for (int column : FAR) {
            Due.answer("letter(" + column + ")", full.letter(column), NONE);
        }
        Due.fault(full, "x=1", 0, NONE);
        Due.answer("letter(1) of a lesser system", full.letter(1), NONE);
        number();
    }

    private static void number() {
        Due.sentence(7, "B of a row, with as many columns as there are");
        Due.answer("B of a full system", Due.system("a+b+c=d+e+f-7").number(0, 6), -7);
        Due.answer("B without columns", Due.system("5=2").number(0, 0), -3);
        Due.answer("B of the last row", Due.system("a=1;a=2;a=3;a<=4").number(3, 2), 4);
        Due.sentence(7, "IndexOutOfBoundsException when there is none such");
        numberIsNone(new LeastSolutions(), 0, 0);
        numberIsNone(Due.system("1=2"), 1, 1);
        numberIsNone(Due.system("a<=2;b=1"), 2, 4);
        numberIsNone(Due.system("a+b=1;c+d=2;e+f=3;a=4"), 4, 7);
        LeastSolutions x = Due.system("a+b=1;c+d=2;e+f=3;a=4");
        Due.fault(x, "a=1", 0, NONE);
        numberIsNone(x, 1, 2);
    }

    private static void numberIsNone(LeastSolutions x, int rows, int width) {
        for (int row = -1; row <= 5; row++) {
            for (int column = -1; column <= 8; column++) {
                if (row < 0 || row >= rows || column < 0 || column >= width) {
                    int i = row;
                    int j = column;
                    Due.noIndex("number(" + row + ", " + column + ")", () -> x.number(i, j));
                }
            }
        }
        for (int far : FAR) {
            Due.noIndex("number(" + far + ", 0)", () -> x.number(far, 0));
            Due.noIndex("number(0, " + far + ")", () -> x.number(0, far));
            Due.noIndex("number(" + far + ", " + far + ")", () -> x.number(far, far));
        }
    }
}
