import java.util.HashSet;
import java.util.NoSuchElementException;
import java.util.Set;

/**
 * Long runs of calls, right and wrong ones, on SiftedGraphs and on a slow model that follows the
 * document's words: values looked up one by one, nodes as sets of value texts, formulas by trying
 * every way in which a text could go on.
 */
public final class ModelTest {
    private static final int RUNS = 200;
    private static final int MOST_CALLS = 512;
    private static final int WIDE_RUNS = 12;

    private long seed;
    private int calls = 0;

    private ModelTest(long seed) {
        this.seed = seed;
    }

    public static void main(String[] args) {
        int wrong = 0;
        for (int run = 0; run < RUNS && wrong < 10; run++) {
            wrong += new ModelTest(run).run(run);
        }
        for (int run = 0; run < WIDE_RUNS && wrong < 10; run++) {
            wrong += new ModelTest(-1 - run).runWide(run);
        }
        System.out.println(wrong == 0 ? "the model agrees" : wrong + " runs went apart");
        if (wrong != 0) {
            System.exit(1);
        }
    }

    private int run(int number) {
        SiftedGraphs x = new SiftedGraphs();
        Model model = new Model();
        while (calls < MOST_CALLS) {
            String fault = compareOne(x, model);
            if (fault != null) {
                System.out.println("run " + number + ", call " + calls + ": " + fault);
                return 1;
            }
        }
        return 0;
    }

    // Eight registers of functions as unlike one another as can be, so that the levels are full.
    private int runWide(int number) {
        SiftedGraphs x = new SiftedGraphs();
        Model model = new Model();
        String fault = null;
        for (int r = 0; r < 8; r++) {
            int register = r;
            int code = 2 + below(12);
            fault = fault != null ? fault : same("set", () -> { x.set(register, code); return 0; }, () -> model.set(register, code));
        }
        for (int round = 0; round < 20; round++) {
            fault = fault != null ? fault : mixOnce(x, model);
        }
        for (int v = 0; v < 6; v++) {
            int which = v;
            fault = fault != null ? fault : same("shared", () -> x.shared(), () -> model.shared());
            fault = fault != null ? fault : same("width", () -> x.width(which), () -> model.width(which));
            fault = fault != null ? fault : same("sift", () -> x.sift(which), () -> model.sift(which));
        }
        if (fault != null) {
            System.out.println("wide run " + number + ": " + fault);
        }
        return fault == null ? 0 : 1;
    }

    private String mixOnce(SiftedGraphs x, Model m) {
        String fault = null;
        for (int r = 0; r < 8 && fault == null; r++) {
            int register = r;
            char other = (char) ('A' + below(8));
            char first = (char) ('a' + below(6));
            char second = (char) ('a' + below(6));
            long text = (long) ('A' + r) << 40 | (long) '^' << 32 | (long) other << 24 | '&' << 16 | first << 8 | '^';
            fault = compareTyping(x, m, text, 6);
            fault = fault != null ? fault : compareTyping(x, m, second, 1);
            fault = fault != null ? fault : same("read", () -> x.read(register), () -> m.read(register));
        }
        return fault;
    }

    // The same numbers in every run of the tests, without a random source.
    private int below(int bound) {
        seed = seed * 6364136223846793005L + 1442695040888963407L;
        return (int) ((seed >>> 33) % bound);
    }

    private int register() {
        return below(60) == 0 ? (below(2) == 0 ? -1 : 8) : below(8);
    }

    private int number(int bound) {
        return below(40) == 0 ? (below(2) == 0 ? -1 : bound) : below(bound);
    }

    private String compareOne(SiftedGraphs x, Model m) {
        int kind = below(26);
        int r = register();
        int a = register();
        int b = register();
        int c = register();
        int v = number(6);
        boolean flag = below(2) == 0;
        switch (kind) {
            case 0: { int code = number(14); return same("set " + r + " " + code, () -> { x.set(r, code); return 0; }, () -> m.set(r, code)); }
            case 1: case 2: { int o = number(16); return same("apply " + r + " " + a + " " + b + " " + o, () -> { x.apply(r, a, b, o); return 0; }, () -> m.apply(r, a, b, o)); }
            case 3: return same("choose " + r + " " + a + " " + b + " " + c, () -> { x.choose(r, a, b, c); return 0; }, () -> m.choose(r, a, b, c));
            case 4: return same("restrict " + r + " " + a + " " + v + " " + flag, () -> { x.restrict(r, a, v, flag); return 0; }, () -> m.restrict(r, a, v, flag));
            case 5: return same("compose " + r + " " + a + " " + v + " " + b, () -> { x.compose(r, a, v, b); return 0; }, () -> m.compose(r, a, v, b));
            case 6: { int set = number(64); return same("quantify " + r + " " + a + " " + set + " " + flag, () -> { x.quantify(r, a, set, flag); return 0; }, () -> m.quantify(r, a, set, flag)); }
            case 7: case 8: case 9: case 10: case 11: return compareText(x, m, r);
            case 12: return below(3) > 0 ? null : same("release " + r, () -> x.release(r) ? 1 : 0, () -> m.release(r));
            case 13: return same("equal " + a + " " + b, () -> x.equal(a, b) ? 1 : 0, () -> m.equal(a, b));
            case 14: { int i = number(64); return same("value " + a + " " + i, () -> x.value(a, i) ? 1 : 0, () -> m.value(a, i)); }
            case 15: return same("count " + a, () -> x.count(a), () -> m.count(a));
            case 16: return same("least " + a, () -> x.least(a), () -> m.least(a));
            case 17: return same("support " + a, () -> x.support(a), () -> m.support(a));
            case 18: return same("size " + a, () -> x.size(a), () -> m.size(a));
            case 19: return same("shared", () -> x.shared(), () -> m.shared());
            case 20: return same("width " + v, () -> x.width(v), () -> m.width(v));
            case 21: return same("variable " + v, () -> x.variable(v), () -> m.variable(v));
            case 22: case 23: { int l = number(5); return same("swap " + l, () -> x.swap(l), () -> m.swap(l)); }
            case 24: return below(4) > 0 ? null : same("sift " + v, () -> x.sift(v), () -> m.sift(v));
            default: return compareRegister(x, m, a);
        }
    }

    private String compareText(SiftedGraphs x, Model m, int r) {
        String text = damaged(formula(1 + below(4)));
        String fault = null;
        int from = 0;
        while (from < text.length() && fault == null) {
            int n = Math.min(1 + below(8), text.length() - from);
            long characters = below(2) == 0 ? 0 : -1;
            for (int i = from; i < from + n; i++) {
                characters = characters << 8 | text.charAt(i);
            }
            from += n;
            fault = compareTyping(x, m, characters, below(60) == 0 ? below(12) - 1 : n);
        }
        if (fault != null) {
            return fault;
        }
        return below(8) == 0 ? null : same("read " + r, () -> x.read(r), () -> m.read(r));
    }

    private String compareTyping(SiftedGraphs x, Model m, long characters, int n) {
        return same("type " + characters + " " + n, () -> x.type(characters, n), () -> m.type(characters, n));
    }

    private String damaged(String formula) {
        String characters = "01afgAHI()!&^| ";
        int place = below(formula.length());
        char other = below(8) == 0 ? (char) below(256) : characters.charAt(below(characters.length()));
        switch (below(8)) {
            case 0: return formula.substring(0, place) + other + formula.substring(place + 1);
            case 1: return formula.substring(0, place) + other + formula.substring(place);
            case 2: return formula.substring(0, place);
            default: return formula;
        }
    }

    private String formula(int depth) {
        String operand = "01abcdefabcdefabcdefABCDEFGH";
        switch (depth == 0 ? 0 : below(7)) {
            case 0: return String.valueOf(operand.charAt(below(operand.length())));
            case 1: return "!" + formula(depth - 1);
            case 2: return "(" + formula(depth) + ")";
            case 3: return formula(depth - 1) + "&" + formula(depth - 1);
            case 4: return formula(depth - 1) + "^" + formula(depth - 1);
            case 5: return formula(depth - 1) + "|" + formula(depth - 1);
            default: return "!(" + formula(depth - 1) + ")";
        }
    }

    private String compareRegister(SiftedGraphs x, Model m, int a) {
        String fault = null;
        for (int i = below(8); i < 64 && fault == null; i += 1 + below(16)) {
            int assignment = i;
            fault = same("value " + a + " " + i, () -> x.value(a, assignment) ? 1 : 0, () -> m.value(a, assignment));
        }
        return fault;
    }

    private interface Question {
        int ask();
    }

    private String same(String call, Question program, Question model) {
        // What an object answers after its last promised call is free.
        if (calls >= MOST_CALLS) {
            return null;
        }
        calls++;
        String got = told(program);
        String due = told(model);
        return got.equals(due) ? null : call + " answered " + got + ", due is " + due;
    }

    private static String told(Question question) {
        try {
            return Integer.toString(question.ask());
        } catch (RuntimeException e) {
            return e.getClass().getName();
        }
    }

    private static final class Model {
        private final boolean[][] registers = new boolean[8][];
        private int[] order = {0, 1, 2, 3, 4, 5};
        private String text = "";

        int set(int r, int code) {
            bounds(r, 8, code, 14);
            boolean[] f = new boolean[64];
            for (int i = 0; i < 64; i++) {
                f[i] = code == 1 || code >= 2 && bit(i, (code - 2) / 2) == (code % 2 == 0);
            }
            registers[r] = f;
            return 0;
        }

        int apply(int r, int a, int b, int operation) {
            bounds(r, 8, a, 8, b, 8, operation, 16);
            full(a, b);
            boolean[] f = new boolean[64];
            for (int i = 0; i < 64; i++) {
                f[i] = (operation >> 2 * (registers[a][i] ? 1 : 0) + (registers[b][i] ? 1 : 0) & 1) == 1;
            }
            registers[r] = f;
            return 0;
        }

        int choose(int r, int a, int b, int c) {
            bounds(r, 8, a, 8, b, 8, c, 8);
            full(a, b, c);
            boolean[] f = new boolean[64];
            for (int i = 0; i < 64; i++) {
                f[i] = registers[a][i] ? registers[b][i] : registers[c][i];
            }
            registers[r] = f;
            return 0;
        }

        int restrict(int r, int a, int v, boolean value) {
            bounds(r, 8, a, 8, v, 6);
            full(a);
            registers[r] = given(registers[a], v, value);
            return 0;
        }

        int compose(int r, int a, int v, int b) {
            bounds(r, 8, a, 8, v, 6, b, 8);
            full(a, b);
            boolean[] f = new boolean[64];
            for (int i = 0; i < 64; i++) {
                f[i] = registers[a][with(i, v, registers[b][i])];
            }
            registers[r] = f;
            return 0;
        }

        int quantify(int r, int a, int set, boolean all) {
            bounds(r, 8, a, 8, set, 64);
            full(a);
            boolean[] f = new boolean[64];
            for (int i = 0; i < 64; i++) {
                f[i] = all;
                for (int j = 0; j < 64; j++) {
                    if (agreesOutside(i, j, set) && registers[a][j] != all) {
                        f[i] = !all;
                    }
                }
            }
            registers[r] = f;
            return 0;
        }

        int type(long characters, int n) {
            if (n < 1 || n > 8 || text.length() + n > 40) {
                throw new IllegalArgumentException();
            }
            for (int i = n - 1; i >= 0; i--) {
                text += (char) (characters >> 8 * i & 255);
            }
            return text.length();
        }

        int read(int r) {
            bounds(r, 8);
            String formula = text;
            text = "";
            int open = 0;
            for (int place = 0; place < formula.length(); place++) {
                char c = formula.charAt(place);
                open += c == '(' ? 1 : c == ')' ? -1 : 0;
                boolean empty = c >= 'A' && c <= 'H' && registers[c - 'A'] == null;
                if (open > 5 || empty || !canGoOn(formula.substring(0, place + 1))) {
                    return place;
                }
            }
            if (!isFormula(formula)) {
                return formula.length();
            }
            boolean[] f = new boolean[64];
            for (int i = 0; i < 64; i++) {
                f[i] = meaning(formula, i);
            }
            registers[r] = f;
            return -1;
        }

        int release(int r) {
            bounds(r, 8);
            boolean was = registers[r] != null;
            registers[r] = null;
            return was ? 1 : 0;
        }

        int equal(int a, int b) {
            bounds(a, 8, b, 8);
            full(a, b);
            return told(registers[a]).equals(told(registers[b])) ? 1 : 0;
        }

        int value(int a, int assignment) {
            bounds(a, 8, assignment, 64);
            full(a);
            return registers[a][assignment] ? 1 : 0;
        }

        int count(int a) {
            bounds(a, 8);
            full(a);
            return told(registers[a]).replace("0", "").length();
        }

        int least(int a) {
            bounds(a, 8);
            full(a);
            return told(registers[a]).indexOf('1');
        }

        int support(int a) {
            bounds(a, 8);
            full(a);
            int set = 0;
            for (int v = 0; v < 6; v++) {
                set += depends(registers[a], v) ? 1 << v : 0;
            }
            return set;
        }

        int size(int a) {
            bounds(a, 8);
            full(a);
            int nodes = 0;
            for (int level = 0; level < 6; level++) {
                Set<String> found = new HashSet<>();
                gather(registers[a], 0, level, found);
                nodes += found.size();
            }
            return nodes;
        }

        int shared() {
            int nodes = 0;
            for (int level = 0; level < 6; level++) {
                nodes += width(level);
            }
            return nodes;
        }

        int width(int level) {
            bounds(level, 6);
            Set<String> found = new HashSet<>();
            for (boolean[] f : registers) {
                if (f != null) {
                    gather(f, 0, level, found);
                }
            }
            return found.size();
        }

        int variable(int level) {
            bounds(level, 6);
            return order[level];
        }

        int swap(int l) {
            bounds(l, 5);
            int upper = order[l];
            order[l] = order[l + 1];
            order[l + 1] = upper;
            return shared();
        }

        int sift(int v) {
            bounds(v, 6);
            int[] before = order;
            int best = -1;
            int fewest = Integer.MAX_VALUE;
            for (int level = 0; level < 6; level++) {
                order = moved(before, v, level);
                int nodes = shared();
                if (nodes < fewest) {
                    fewest = nodes;
                    best = level;
                }
            }
            order = moved(before, v, best);
            return best;
        }

        private static int[] moved(int[] before, int v, int level) {
            int[] after = new int[6];
            int from = 0;
            for (int l = 0; l < 6; l++) {
                if (l == level) {
                    after[l] = v;
                    continue;
                }
                from += before[from] == v ? 1 : 0;
                after[l] = before[from];
                from++;
            }
            return after;
        }

        private void gather(boolean[] f, int from, int level, Set<String> found) {
            if (from == level) {
                if (depends(f, order[level])) {
                    found.add(told(f));
                }
                return;
            }
            gather(given(f, order[from], false), from + 1, level, found);
            gather(given(f, order[from], true), from + 1, level, found);
        }

        private static boolean canGoOn(String start) {
            String end = "";
            for (int closing = 0; closing <= 40; closing++) {
                if (isFormula(start + end) || isFormula(start + "a" + end)) {
                    return true;
                }
                end += ")";
            }
            return false;
        }

        private static boolean isFormula(String s) {
            if (s.matches("(?s).*[^01a-fA-H()!&^|].*")) {
                return false;
            }
            String before = null;
            String now = s.replaceAll("[01a-fA-H]", "x");
            while (!now.equals(before)) {
                before = now;
                now = now.replace("!x", "x").replace("(x)", "x").replaceAll("x[&^|]x", "x");
            }
            return now.equals("x");
        }

        private boolean meaning(String s, int i) {
            for (char operator : new char[] {'|', '^', '&'}) {
                int place = lastOutside(s, operator);
                if (place >= 0) {
                    boolean left = meaning(s.substring(0, place), i);
                    boolean right = meaning(s.substring(place + 1), i);
                    return operator == '|' ? left || right : operator == '^' ? left != right : left && right;
                }
            }
            char c = s.charAt(0);
            if (c == '!') {
                return !meaning(s.substring(1), i);
            }
            if (c == '(') {
                return meaning(s.substring(1, s.length() - 1), i);
            }
            return c == '1' || c >= 'a' && bit(i, c - 'a') || c >= 'A' && c <= 'H' && registers[c - 'A'][i];
        }

        private static int lastOutside(String s, char operator) {
            int open = 0;
            for (int place = s.length() - 1; place >= 0; place--) {
                char c = s.charAt(place);
                open += c == ')' ? 1 : c == '(' ? -1 : 0;
                if (open == 0 && c == operator) {
                    return place;
                }
            }
            return -1;
        }

        private static boolean bit(int assignment, int v) {
            return assignment / (32 >> v) % 2 == 1;
        }

        private static int with(int assignment, int v, boolean value) {
            int weight = 32 >> v;
            return assignment + (value ? weight : 0) - (bit(assignment, v) ? weight : 0);
        }

        private static boolean agreesOutside(int i, int j, int set) {
            for (int v = 0; v < 6; v++) {
                if (bit(i, v) != bit(j, v) && (set >> v & 1) == 0) {
                    return false;
                }
            }
            return true;
        }

        private static boolean[] given(boolean[] f, int v, boolean value) {
            boolean[] g = new boolean[64];
            for (int i = 0; i < 64; i++) {
                g[i] = f[with(i, v, value)];
            }
            return g;
        }

        private static boolean depends(boolean[] f, int v) {
            for (int i = 0; i < 64; i++) {
                if (f[i] != f[with(i, v, true)]) {
                    return true;
                }
            }
            return false;
        }

        private static String told(boolean[] f) {
            StringBuilder s = new StringBuilder();
            for (boolean value : f) {
                s.append(value ? '1' : '0');
            }
            return s.toString();
        }

        private static void bounds(int... numbersAndBounds) {
            for (int i = 0; i < numbersAndBounds.length; i += 2) {
                if (numbersAndBounds[i] < 0 || numbersAndBounds[i] >= numbersAndBounds[i + 1]) {
                    throw new IllegalArgumentException();
                }
            }
        }

        private void full(int... looked) {
            for (int r : looked) {
                if (registers[r] == null) {
                    throw new NoSuchElementException();
                }
            }
        }
    }
}
