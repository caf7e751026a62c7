/**
 * For each promise of the document: ordinary inputs, the edges that it names, wrong inputs. No
 * object gets more than the 512 calls that are promised.
 */
public final class PromiseTests extends Checks {
    private static final int[] OUT_OF_EIGHT = {-1, 8, Integer.MIN_VALUE, Integer.MAX_VALUE};
    private static final int[] OUT_OF_SIX = {-1, 6, Integer.MIN_VALUE, Integer.MAX_VALUE};

    // What ring() says, as a formula.
    private static final String RING = "a&b^c&d^e&f^a&f";

    public static void main(String[] args) {
        newObject();
        set();
        apply();
        choose();
        restrict();
        compose();
        quantify();
        type();
        readMeanings();
        readFailures();
        readAndState();
        release();
        equal();
        value();
        count();
        least();
        support();
        size();
        shared();
        width();
        variable();
        swap();
        sift();
        finish();
    }

    private static void newObject() {
        about("promise 1, a new object");
        SiftedGraphs x = new SiftedGraphs();
        for (int r = 0; r < 8; r++) {
            int register = r;
            missing("count of " + r, () -> x.count(register));
        }
        for (int level = 0; level < 6; level++) {
            due("variable on level " + level, x.variable(level), level);
            due("width of level " + level, x.width(level), 0);
        }
        due("shared", x.shared(), 0);
        due("first text", x.type('a', 1), 1);
    }

    private static void set() {
        about("promise 2, set");
        for (int code = 0; code < 14; code++) {
            SiftedGraphs one = new SiftedGraphs();
            one.set(3, code);
            for (int i = 0; i < 64; i++) {
                boolean even = code >= 2 && (i >> 5 - (code - 2) / 2 & 1) == 1;
                due("code " + code + " at " + i, one.value(3, i), even ^ code % 2 == 1);
            }
        }
        SiftedGraphs x = new SiftedGraphs();
        x.set(0, 4);
        x.set(7, 5);
        due("first register", x.count(0), 32);
        due("last register", x.value(7, 0), true);
        for (int bad : OUT_OF_EIGHT) {
            refused("register " + bad, () -> x.set(bad, 1));
        }
        for (int bad : new int[] {-1, 14, Integer.MIN_VALUE, Integer.MAX_VALUE}) {
            refused("code " + bad, () -> x.set(0, bad));
        }
        due("after wrong codes", x.least(0), 16);
    }

    private static void apply() {
        about("promise 3, apply");
        for (int operation = 0; operation < 16; operation++) {
            SiftedGraphs one = withVariables();
            one.apply(7, 1, 4, operation);
            for (int i = 0; i < 64; i++) {
                int bit = 2 * (i >> 4 & 1) + (i >> 1 & 1);
                due("operation " + operation + " at " + i, one.value(7, i), (operation >> bit & 1) == 1);
            }
        }
        SiftedGraphs x = withVariables();
        x.apply(1, 1, 4, 8);
        due("into its own operand", x.count(1), 16);
        x.apply(1, 1, 1, 6);
        due("with itself", x.count(1), 0);
        for (int bad : OUT_OF_EIGHT) {
            refused("r " + bad, () -> x.apply(bad, 7, 7, 0));
            refused("a " + bad, () -> x.apply(0, bad, 7, 0));
            refused("b " + bad, () -> x.apply(0, 7, bad, 0));
        }
        for (int bad : new int[] {-1, 16, Integer.MIN_VALUE, Integer.MAX_VALUE}) {
            refused("operation " + bad, () -> x.apply(0, 7, 7, bad));
        }
        missing("a", () -> x.apply(0, 7, 1, 0));
        missing("b, though it does not matter", () -> x.apply(0, 1, 7, 12));
        due("after wrong calls", x.support(0), 1);
    }

    private static void choose() {
        about("promise 4, choose");
        SiftedGraphs x = withVariables();
        x.choose(6, 2, 0, 5);
        for (int i = 0; i < 64; i++) {
            due("at " + i, x.value(6, i), (i >> 3 & 1) == 1 ? i >> 5 == 1 : (i & 1) == 1);
        }
        x.choose(2, 2, 2, 2);
        due("itself", x.support(2), 4);
        for (int bad : OUT_OF_EIGHT) {
            refused("r " + bad, () -> x.choose(bad, 7, 7, 7));
            refused("a " + bad, () -> x.choose(0, bad, 7, 7));
            refused("b " + bad, () -> x.choose(0, 7, bad, 7));
            refused("c " + bad, () -> x.choose(0, 7, 7, bad));
        }
        missing("a", () -> x.choose(0, 7, 1, 1));
        missing("b", () -> x.choose(0, 1, 7, 1));
        missing("c", () -> x.choose(0, 1, 1, 7));
        due("after wrong calls", x.support(0), 1);
    }

    private static void restrict() {
        about("promise 5, restrict");
        for (int v = 0; v < 6; v++) {
            SiftedGraphs one = held(RING);
            one.restrict(7, 0, v, true);
            one.restrict(0, 0, v, false);
            int weight = 1 << 5 - v;
            for (int i = 0; i < 64; i++) {
                due("1 of " + v + " at " + i, one.value(7, i), ring(i | weight));
                due("0 of " + v + " at " + i, one.value(0, i), ring(i & ~weight));
            }
        }
        SiftedGraphs x = withVariables();
        for (int bad : OUT_OF_EIGHT) {
            refused("r " + bad, () -> x.restrict(bad, 7, 0, true));
            refused("a " + bad, () -> x.restrict(0, bad, 0, true));
        }
        for (int bad : OUT_OF_SIX) {
            refused("v " + bad, () -> x.restrict(0, 7, bad, false));
        }
        missing("a", () -> x.restrict(0, 7, 0, true));
        due("after wrong calls", x.support(0), 1);
    }

    private static void compose() {
        about("promise 6, compose");
        for (int v = 0; v < 6; v++) {
            SiftedGraphs one = held(RING);
            enter(one, 7, "b|!d&e");
            one.compose(1, 0, v, 7);
            int weight = 1 << 5 - v;
            for (int i = 0; i < 64; i++) {
                boolean inner = bit(i, 1) || !bit(i, 3) && bit(i, 4);
                due(v + " at " + i, one.value(1, i), ring(inner ? i | weight : i & ~weight));
            }
        }
        SiftedGraphs itself = held(RING);
        itself.compose(0, 0, 2, 0);
        for (int i = 0; i < 64; i++) {
            due("into itself at " + i, itself.value(0, i), ring(ring(i) ? i | 8 : i & ~8));
        }
        SiftedGraphs x = withVariables();
        for (int bad : OUT_OF_EIGHT) {
            refused("r " + bad, () -> x.compose(bad, 7, 0, 7));
            refused("a " + bad, () -> x.compose(0, bad, 0, 7));
            refused("b " + bad, () -> x.compose(0, 7, 0, bad));
        }
        for (int bad : OUT_OF_SIX) {
            refused("v " + bad, () -> x.compose(0, 7, bad, 7));
        }
        missing("a", () -> x.compose(0, 7, 0, 1));
        missing("b, though it does not matter", () -> x.compose(0, 1, 5, 7));
        due("after wrong calls", x.support(0), 1);
    }

    private static void quantify() {
        about("promise 7, quantify");
        for (int set = 0; set < 64; set++) {
            SiftedGraphs one = held(RING);
            one.quantify(1, 0, set, false);
            one.quantify(0, 0, set, true);
            for (int i = 0; i < 64; i++) {
                due("some of " + set + " at " + i, one.value(1, i), ringOver(i, set, false));
                due("all of " + set + " at " + i, one.value(0, i), ringOver(i, set, true));
            }
        }
        SiftedGraphs x = withVariables();
        for (int bad : OUT_OF_EIGHT) {
            refused("r " + bad, () -> x.quantify(bad, 7, 0, true));
            refused("a " + bad, () -> x.quantify(0, bad, 0, true));
        }
        for (int bad : new int[] {-1, 64, Integer.MIN_VALUE, Integer.MAX_VALUE}) {
            refused("set " + bad, () -> x.quantify(0, 7, bad, false));
        }
        missing("a", () -> x.quantify(0, 7, 0, true));
        due("after wrong calls", x.support(0), 1);
    }

    private static void type() {
        about("promise 8, type");
        SiftedGraphs x = new SiftedGraphs();
        for (int bad : new int[] {0, -1, 9, Integer.MIN_VALUE, Integer.MAX_VALUE}) {
            refused("n " + bad, () -> x.type('a', bad));
        }
        due("highest of the lowest first", x.type(packed("zz!a"), 2), 2);
        due("a second time", x.type(packed("|b"), 2), 4);
        due("reading these", x.read(0), -1);
        due("its least", x.least(0), 0);
        due("its count", x.count(0), 48);
        due("its variables", x.support(0), 3);
        for (int n = 8; n <= 32; n += 8) {
            due("eight more", x.type(packed("!!!!!!!!"), 8), n);
        }
        due("seven more", x.type(packed("!!!!!!!"), 7), 39);
        refused("41", () -> x.type(packed("!a"), 2));
        due("40", x.type('a', 1), 40);
        for (int n = 1; n <= 8; n++) {
            int more = n;
            refused("40 and " + n, () -> x.type('a', more));
        }
        due("reading 40", x.read(0), -1);
        due("of 40", x.count(0), 32);
        due("of 40, which opposite", x.value(0, 0), true);
        due("bytes above 127", x.type(-1L, 8), 8);
        due("reading them", x.read(0), 0);
        due("the highest byte", x.type(0x8061000000000000L | 'b', 1), 1);
        due("is not typed", x.read(0), -1);
    }

    private static void readMeanings() {
        about("promise 9, read");
        means("0", 0);
        means("1", -1L);
        means("a", 0xFFFFFFFF00000000L);
        means("b", 0xFFFF0000FFFF0000L);
        means("c", 0xFF00FF00FF00FF00L);
        means("d", 0xF0F0F0F0F0F0F0F0L);
        means("e", 0xCCCCCCCCCCCCCCCCL);
        means("f", 0xAAAAAAAAAAAAAAAAL);
        means("!f", 0x5555555555555555L);
        means("!!f", 0xAAAAAAAAAAAAAAAAL);
        means("e&f", 0x8888888888888888L);
        means("e^f", 0x6666666666666666L);
        means("e|f", 0xEEEEEEEEEEEEEEEEL);
        means("!e&f", 0x2222222222222222L);
        means("!(e&f)", 0x7777777777777777L);
        means("!(!(e)&!f)", 0xEEEEEEEEEEEEEEEEL);
        means("d|e&f", 0xF8F8F8F8F8F8F8F8L);
        means("d&e|f", 0xEAEAEAEAEAEAEAEAL);
        means("d^e&f", 0x7878787878787878L);
        means("d&e^f", 0x6A6A6A6A6A6A6A6AL);
        means("d|e^f", 0xF6F6F6F6F6F6F6F6L);
        means("d^e|f", 0xBEBEBEBEBEBEBEBEL);
        means("d^e^f", 0x9696969696969696L);
        means("(d|e)&f", 0xA8A8A8A8A8A8A8A8L);
        means("d&(e|f)", 0xE0E0E0E0E0E0E0E0L);
        means("(d^e)&f", 0x2828282828282828L);
        means("!((d|e)^f)&1", 0xA9A9A9A9A9A9A9A9L);
        means("(((((f)))))", 0xAAAAAAAAAAAAAAAAL);
        means("((((f))))&(((((e)))))", 0x8888888888888888L);
    }

    private static void readFailures() {
        failsAt("", 0);
        for (String c : new String[] {"&", "^", "|", ")", " ", "g", "z", "I", "2", "`", "@", "/"}) {
            failsAt(c, 0);
            failsAt("!" + c, 1);
            failsAt("a&" + c, 2);
            failsAt("(" + c, 1);
        }
        for (String c : new String[] {"!", "(", "a", "A", "0", "1", " ", "g", "\0", "\u00ff"}) {
            failsAt("a" + c, 1);
            failsAt("(a" + c + "a)", 2);
            failsAt("(a)" + c, 3);
        }
        failsAt("!", 1);
        failsAt("a|", 2);
        failsAt("(", 1);
        failsAt("(a", 2);
        failsAt("((a)", 4);
        failsAt("a)", 1);
        failsAt("(a))", 3);
        failsAt("()", 1);
        failsAt("B", 0);
        failsAt("a&!(c|H)x", 6);
        failsAt("((((((a))))))", 5);
        failsAt("(((((a)))))&(((((!(a))))))", 18);
        failsAt("(((((a", 6);
        failsAt("A&)B", 2);
        failsAt("a&a&a&a&a&a&a&a&a&a&a&a&a&a&a&a&a&a&a&a&", 40);
    }

    private static void readAndState() {
        SiftedGraphs x = withVariables();
        put(x, "a^B");
        for (int bad : OUT_OF_EIGHT) {
            refused("r " + bad, () -> x.read(bad));
        }
        due("the text stays", x.read(1), -1);
        due("names its own register", x.support(1), 3);
        due("nothing is typed after it", x.read(1), 0);
        due("the register stays", x.support(1), 3);
        put(x, "a&&");
        due("a failure", x.read(7), 2);
        missing("it fills nothing", () -> x.count(7));
        due("nothing is typed after a failure", x.type('f', 1), 1);
        due("a text after a failure", x.read(7), -1);
        due("what it says", x.support(7), 32);
        for (int r = 0; r < 8; r++) {
            x.set(r, r % 2 == 0 ? 2 : 9);
            put(x, "!" + (char) ('A' + r));
            due("the opposite of " + r, x.read((r + 1) % 8), -1);
            due("is it", x.value((r + 1) % 8, 0), !x.value(r, 0));
        }
    }

    private static void release() {
        about("promise 10, release");
        SiftedGraphs x = withVariables();
        due("full", x.release(0), true);
        missing("it is empty", () -> x.count(0));
        due("empty", x.release(0), false);
        due("never full", x.release(7), false);
        due("another stays", x.count(1), 32);
        due("nodes go", x.shared(), 5);
        x.set(0, 0);
        due("full of nothing but 0", x.release(0), true);
        for (int bad : OUT_OF_EIGHT) {
            refused("r " + bad, () -> x.release(bad));
        }
    }

    private static void equal() {
        about("promise 11, equal");
        SiftedGraphs x = withVariables();
        enter(x, 6, "!(!a|!b)");
        enter(x, 7, "b&a");
        due("two texts of one function", x.equal(6, 7), true);
        due("two functions", x.equal(0, 7), false);
        due("itself", x.equal(3, 3), true);
        x.swap(0);
        due("after a swap", x.equal(6, 7), true);
        enter(x, 7, "a&b&!(a&b&c&d&e&f)");
        due("one assignment apart", x.equal(6, 7), false);
        x.release(7);
        for (int bad : OUT_OF_EIGHT) {
            refused("a " + bad, () -> x.equal(bad, 7));
            refused("b " + bad, () -> x.equal(7, bad));
        }
        missing("a", () -> x.equal(7, 0));
        missing("b", () -> x.equal(0, 7));
        missing("both", () -> x.equal(7, 7));
    }

    private static void value() {
        about("promise 12, value");
        SiftedGraphs x = withVariables();
        for (int v = 0; v < 6; v++) {
            for (int i = 0; i < 64; i++) {
                due("variable " + v + " at " + i, x.value(v, i), bit(i, v));
            }
        }
        for (int bad : OUT_OF_EIGHT) {
            refused("a " + bad, () -> x.value(bad, 0));
        }
        for (int bad : new int[] {-1, 64, Integer.MIN_VALUE, Integer.MAX_VALUE}) {
            refused("assignment " + bad, () -> x.value(0, bad));
            refused("assignment of an empty one " + bad, () -> x.value(7, bad));
        }
        missing("a", () -> x.value(7, 63));
    }

    private static void count() {
        about("promise 13, count");
        due("never", held("0").count(0), 0);
        due("always", held("1").count(0), 64);
        due("once", held("a&b&c&d&e&f").count(0), 1);
        due("all but once", held("a|b|c|d|e|f").count(0), 63);
        due("three of eight", held("a&(b|c)").count(0), 24);
        oneRegister(PromiseTests::countOf);
    }

    private static void least() {
        about("promise 14, least");
        due("never", held("0").least(0), -1);
        due("always", held("1").least(0), 0);
        due("the last", held("a&b&c&d&e&f").least(0), 63);
        due("variable 0", held("a").least(0), 32);
        due("variable 5", held("f").least(0), 1);
        due("of several", held("a&f|b&e").least(0), 18);
        oneRegister(PromiseTests::leastOf);
    }

    private static void support() {
        about("promise 15, support");
        due("never", held("0").support(0), 0);
        due("always", held("1").support(0), 0);
        due("all", held("a^b^c^d^e^f").support(0), 63);
        due("first", held("a").support(0), 1);
        due("last", held("!f").support(0), 32);
        due("named but not needed", held("a&b|a&!b|d&0").support(0), 1);
        oneRegister(PromiseTests::supportOf);
    }

    private static void size() {
        about("promise 16, size");
        due("never", held("0").size(0), 0);
        due("always", held("1").size(0), 0);
        due("a variable", held("d").size(0), 1);
        due("parity", held("a^b^c^d^e^f").size(0), 11);
        due("a product", held("a&b&c&d&e&f").size(0), 6);
        due("pairs side by side", held("a&b|c&d|e&f").size(0), 6);
        due("pairs far apart", held("a&d|b&e|c&f").size(0), 14);
        SiftedGraphs x = held("a&b");
        x.set(1, 4);
        due("not what another has", x.size(0), 2);
        oneRegister(PromiseTests::sizeOf);
    }

    private static void shared() {
        about("promise 17, shared");
        SiftedGraphs x = held("a&b");
        x.set(1, 4);
        due("a register inside another", x.shared(), 2);
        x.set(2, 5);
        due("opposites are two", x.shared(), 3);
        enter(x, 7, "a&b");
        due("one function twice", x.shared(), 3);
        x.set(3, 1);
        x.set(4, 0);
        due("constants are none", x.shared(), 3);
        x.release(0);
        due("one of the two is gone", x.shared(), 3);
        x.release(7);
        due("both are gone", x.shared(), 2);
    }

    private static void width() {
        about("promise 18, width");
        SiftedGraphs x = held("a&d|b&e|c&f");
        int[] apart = {1, 2, 4, 4, 2, 1};
        for (int level = 0; level < 6; level++) {
            due("level " + level, x.width(level), apart[level]);
        }
        x.set(1, 13);
        due("of all registers", x.width(5), 2);
        x.swap(4);
        due("after a swap", 10 * x.width(4) + x.width(5), 31);
        for (int bad : OUT_OF_SIX) {
            refused("level " + bad, () -> x.width(bad));
        }
    }

    private static void variable() {
        about("promise 19, variable");
        SiftedGraphs x = new SiftedGraphs();
        x.swap(0);
        x.swap(1);
        x.swap(4);
        int[] order = {1, 2, 0, 3, 5, 4};
        for (int level = 0; level < 6; level++) {
            due("level " + level, x.variable(level), order[level]);
        }
        for (int bad : OUT_OF_SIX) {
            refused("level " + bad, () -> x.variable(bad));
        }
    }

    private static void swap() {
        about("promise 20, swap");
        SiftedGraphs x = held("a&d|b&e|c&f");
        due("before", x.shared(), 14);
        due("c and d", x.swap(2), 10);
        due("b and d", x.swap(1), 8);
        due("c and e", x.swap(3), 6);
        due("and back", x.swap(3), 8);
        due("values stay", x.least(0), 9);
        due("the first", x.swap(0), 8);
        due("the last", x.swap(4), 8);
        due("order after all", order(x), "301254");
        for (int bad : new int[] {-1, 5, 6, Integer.MIN_VALUE, Integer.MAX_VALUE}) {
            refused("l " + bad, () -> x.swap(bad));
        }
        due("order after wrong calls", order(x), "301254");
    }

    private static void sift() {
        about("promise 21, sift");
        SiftedGraphs x = new SiftedGraphs();
        due("no nodes: the least level", x.sift(4), 0);
        due("order the others keep their order", order(x), "401235");
        enter(x, 0, "a^b^c^d^e^f");
        due("all alike", x.sift(5), 0);
        due("order from the last level", order(x), "540123");

        SiftedGraphs y = held("a&d|b&e|c&f");
        due("d", y.sift(3), bestLevel("012345", '3', "a&d|b&e|c&f"));
        due("then e", y.sift(4), 2);
        due("order after both", order(y), "304125");
        due("in the end", y.shared(), 6);

        SiftedGraphs z = held("b&c&(a|d)|!b&!c&d");
        due("level", z.sift(0), bestLevel("012345", '0', "b&c&(a|d)|!b&!c&d"));
        for (int bad : OUT_OF_SIX) {
            refused("v " + bad, () -> z.sift(bad));
        }

        String[] texts = {"a&f|b&e|c&d", "a&(b^d)|!a&(c^f)", "a&b&c|d&e&f|a&e", "(a|!c)&(e^b)|f&d&c"};
        for (String text : texts) {
            for (int v = 0; v < 6; v++) {
                SiftedGraphs w = held(text);
                int best = bestLevel("012345", (char) ('0' + v), text);
                due(text + " by " + v, w.sift(v), best);
                due(text + " where " + v + " went", w.variable(best), v);
            }
        }
    }

    // What the document asks of sift, each level tried by swaps on an object of its own.
    private static int bestLevel(String order, char v, String text) {
        int best = -1;
        int fewest = Integer.MAX_VALUE;
        for (int level = 0; level < 6; level++) {
            SiftedGraphs x = held(text);
            int from = order.indexOf(v);
            for (int l = from; l < level; l++) {
                x.swap(l);
            }
            for (int l = from; l > level; l--) {
                x.swap(l - 1);
            }
            if (x.shared() < fewest) {
                fewest = x.shared();
                best = level;
            }
        }
        return best;
    }

    private interface OneRegister {
        int ask(SiftedGraphs x, int a);
    }

    private static int countOf(SiftedGraphs x, int a) {
        return x.count(a);
    }

    private static int leastOf(SiftedGraphs x, int a) {
        return x.least(a);
    }

    private static int supportOf(SiftedGraphs x, int a) {
        return x.support(a);
    }

    private static int sizeOf(SiftedGraphs x, int a) {
        return x.size(a);
    }

    private static void oneRegister(OneRegister question) {
        SiftedGraphs x = withVariables();
        for (int bad : OUT_OF_EIGHT) {
            refused("a " + bad, () -> question.ask(x, bad));
        }
        missing("a", () -> question.ask(x, 7));
        x.set(7, 2);
        x.release(7);
        missing("a released", () -> question.ask(x, 7));
    }

    private static void means(String formula, long table) {
        SiftedGraphs x = held(formula);
        for (int i = 0; i < 64; i++) {
            due(formula + " at " + i, x.value(0, i), (table >>> i & 1) == 1);
        }
    }

    private static void failsAt(String text, int place) {
        SiftedGraphs x = new SiftedGraphs();
        x.set(0, 2);
        put(x, text);
        due("reading " + text, x.read(0), place);
        due("after reading " + text, x.support(0) == 1 && x.least(0) == 32, true);
    }

    private static boolean ring(int i) {
        return bit(i, 0) & bit(i, 1) ^ bit(i, 2) & bit(i, 3) ^ bit(i, 4) & bit(i, 5) ^ bit(i, 0) & bit(i, 5);
    }

    private static boolean ringOver(int assignment, int set, boolean all) {
        for (int other = 0; other < 64; other++) {
            boolean differsInside = true;
            for (int v = 0; v < 6; v++) {
                differsInside &= bit(other, v) == bit(assignment, v) || (set >> v & 1) == 1;
            }
            if (differsInside && ring(other) != all) {
                return !all;
            }
        }
        return all;
    }
}
