import java.util.NoSuchElementException;

/** What the tests have in common: checks that tell what went wrong, and objects made ready. */
abstract class Checks {
    // One formula of 23 characters in three parts, seven longer ones in four, and the readings.
    static final int CALLS_OF_FULLEST = 3 + 7 * 4 + 8;

    private static int wrong = 0;
    private static String sentence = "";

    interface Call {
        void make();
    }

    /** Names the promise or the sentence of the document that the next checks are about. */
    static void about(String said) {
        sentence = said;
    }

    static void due(String what, boolean got, boolean want) {
        due(what, got ? 1 : 0, want ? 1 : 0);
    }

    static void due(String what, int got, int want) {
        if (got != want) {
            fault(what + " answered " + got + ", due is " + want);
        }
    }

    static void due(String what, String got, String want) {
        if (!got.equals(want)) {
            fault(what + " is " + got + ", due is " + want);
        }
    }

    static void refused(String what, Call call) {
        due(what, thrownBy(call), "IllegalArgumentException");
    }

    static void missing(String what, Call call) {
        due(what, thrownBy(call), "NoSuchElementException");
    }

    static void goesThrough(String what, Call call) {
        due(what, thrownBy(call), "nothing");
    }

    static String thrownBy(Call call) {
        try {
            call.make();
        } catch (RuntimeException e) {
            return e.getClass().getSimpleName();
        }
        return "nothing";
    }

    private static void fault(String what) {
        wrong++;
        System.out.println(sentence + ": " + what);
    }

    static void finish() {
        System.out.println(wrong == 0 ? "all checks hold" : wrong + " checks failed");
        if (wrong != 0) {
            System.exit(1);
        }
    }

    /** Numbers that are not 0 .. bound - 1, some of them with low bits that would be in bounds. */
    static int[] beyond(int bound) {
        return new int[] {
            -1, bound, bound + 1, -bound, 128, 256, 1 << 16, Integer.MIN_VALUE, Integer.MIN_VALUE + 1, Integer.MAX_VALUE
        };
    }

    /** Registers 0 .. 5 hold the variables, 6 and 7 are empty. */
    static SiftedGraphs withVariables() {
        SiftedGraphs x = new SiftedGraphs();
        for (int v = 0; v < 6; v++) {
            x.set(v, 2 + 2 * v);
        }
        return x;
    }

    /** Register 0 holds what the formula says, the others are empty. */
    static SiftedGraphs held(String formula) {
        SiftedGraphs x = new SiftedGraphs();
        enter(x, 0, formula);
        return x;
    }

    /** Eight functions that stay different on every level, so that each has the most nodes. */
    static SiftedGraphs fullest() {
        SiftedGraphs x = new SiftedGraphs();
        for (int r = 0; r < 8; r++) {
            String own = ((r & 1) != 0 ? "^1" : "") + ((r & 2) != 0 ? "^e" : "") + ((r & 4) != 0 ? "^f" : "");
            enter(x, r, "a&e&f^b&d&f^c&d&e^d&e&f" + own);
        }
        return x;
    }

    static void enter(SiftedGraphs x, int r, String formula) {
        put(x, formula);
        due("reading " + formula, x.read(r), -1);
    }

    static void put(SiftedGraphs x, String text) {
        for (int from = 0; from < text.length(); from += 8) {
            String part = text.substring(from, Math.min(from + 8, text.length()));
            x.type(packed(part), part.length());
        }
    }

    static long packed(String part) {
        long characters = 0;
        for (int i = 0; i < part.length(); i++) {
            characters = characters << 8 | part.charAt(i);
        }
        return characters;
    }

    /** Where the text fails when it is read into a register, which takes the text away. */
    static int placeOf(SiftedGraphs x, String text, int r) {
        put(x, text);
        return x.read(r);
    }

    static boolean bit(int assignment, int v) {
        return (assignment >> 5 - v & 1) == 1;
    }

    /** The 64 values of a register, or that it is empty. */
    static String told(SiftedGraphs x, int r) {
        StringBuilder values = new StringBuilder();
        try {
            for (int i = 0; i < 64; i++) {
                values.append(x.value(r, i) ? '1' : '0');
            }
        } catch (NoSuchElementException e) {
            return "empty";
        }
        return values.toString();
    }

    static String told(long table) {
        StringBuilder values = new StringBuilder();
        for (int i = 0; i < 64; i++) {
            values.append((table >>> i & 1) == 1 ? '1' : '0');
        }
        return values.toString();
    }

    /** The variables from level 0 to level 5, a digit for each. */
    static String order(SiftedGraphs x) {
        StringBuilder variables = new StringBuilder();
        for (int level = 0; level < 6; level++) {
            variables.append(x.variable(level));
        }
        return variables.toString();
    }

    static String widths(SiftedGraphs x) {
        StringBuilder widths = new StringBuilder();
        for (int level = 0; level < 6; level++) {
            widths.append(level == 0 ? "" : " ").append(x.width(level));
        }
        return widths.toString();
    }
}
