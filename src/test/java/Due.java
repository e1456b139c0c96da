/** What the tests share: they print every answer that is not the one that is due, and end with 1 then. */
final class Due {
    private static int asked = 0;
    private static int wrong = 0;
    private static String sentence = "";

    interface Call {
        long answer();
    }

    private Due() {
    }

    /** What is asked from here on is asked for this sentence of a promise (0: of none), and is told with it. */
    static void sentence(int promise, String words) {
        sentence = (promise == 0 ? "Document" : "Promise " + promise) + ", '" + words + "': ";
    }

    static void answer(String call, long got, long want) {
        asked++;
        if (got != want) {
            isWrong(call + " answered " + got + ", due is " + want);
        }
    }

    private static void isWrong(String what) {
        wrong++;
        System.out.println(sentence + what);
    }

    static void holds(String what, boolean isSo) {
        answer(what, isSo ? 1 : 0, 1);
    }

    /** Subclasses will not do: the document tells just one class. */
    static void exception(String call, Class<?> want, Call made) {
        asked++;
        String got;
        try {
            got = "answered " + made.answer();
        } catch (RuntimeException e) {
            if (e.getClass() == want) {
                return;
            }
            got = "threw " + e.getClass().getName();
        }
        isWrong(call + " " + got + ", due is " + want.getName());
    }

    static void noIndex(String call, Call made) {
        exception(call, IndexOutOfBoundsException.class, made);
    }

    static void noArgument(String call, Call made) {
        exception(call, IllegalArgumentException.class, made);
    }

    static void noState(String call, Call made) {
        exception(call, IllegalStateException.class, made);
    }

    /** Types a text in pieces of at most 8 characters. */
    static void type(LeastSolutions x, String text) {
        for (int from = 0; from < text.length(); from += 8) {
            String piece = text.substring(from, Math.min(text.length(), from + 8));
            if (x.type(packed(piece), piece.length()) == LeastSolutions.NONE) {
                throw new IllegalStateException("can't be typed: " + text);
            }
        }
    }

    static long packed(String piece) {
        long number = 0;
        for (int i = 0; i < piece.length(); i++) {
            number = number << 8 | piece.charAt(i);
        }
        return number;
    }

    static LeastSolutions system(String text) {
        LeastSolutions x = new LeastSolutions();
        type(x, text);
        if (x.read() != 0) {
            throw new IllegalStateException("no system: " + text);
        }
        return x;
    }

    /** Reads a text: its fault and its place are due. */
    static void fault(LeastSolutions x, String text, int fault, int place) {
        type(x, text);
        answer("read() of '" + text + "'", x.read(), fault);
        answer("place() of '" + text + "'", x.place(), place);
    }

    static void tell(LeastSolutions x, int... numbers) {
        for (int column = 0; column < numbers.length; column++) {
            x.tell(column, numbers[column]);
        }
    }

    /** A list is due as it is written: vectors with commas, a blank in between; or as "refused". */
    static void list(LeastSolutions x, int what, int bound, String want) {
        int n = x.work(what, bound);
        StringBuilder got = new StringBuilder(n == LeastSolutions.NONE ? "refused" : "");
        for (int i = 0; i < n; i++) {
            got.append(i == 0 ? "" : " ");
            for (int column = 0; column < x.count(1); column++) {
                got.append(column == 0 ? "" : ",").append(x.at(what, i, column));
            }
        }
        asked++;
        if (!got.toString().equals(want)) {
            isWrong("work(" + what + ", " + bound + ") made '" + got + "', due is '" + want + "'");
        }
    }

    static void end(String name) {
        System.out.println(name + ": " + asked + " asked, " + wrong + " wrong");
        if (wrong != 0 || asked == 0) {
            System.exit(1);
        }
    }
}
