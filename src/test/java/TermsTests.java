import java.util.ArrayList;
import java.util.List;

/**
 * The sentences of the document's "What it is" and "Terms", each with a test of its own. No object
 * gets more than the 512 calls that are promised.
 */
public final class TermsTests extends Checks {
    private static final int CALLS = 512;

    /** A call with one number left open, to be tried in and out of its bounds. */
    private interface OpenCall {
        void make(SiftedGraphs x, int number);
    }

    private interface CallOn {
        void make(SiftedGraphs x);
    }

    public static void main(String[] args) {
        usedForAllItsCalls();
        variablesAreSix();
        variablesInFormulas();
        assignmentsAreSixtyFour();
        bitsOfAssignments();
        registersAreEight();
        registersInFormulas();
        functionOrEmpty();
        levelsAreSix();
        firstOrder();
        nodesOfHighestAndLowestLevel();
        nodesDependOnTheirVariable();
        sameFunctionsAreOneNode();
        constantsAreNoNodes();
        fortyCharacters();
        formsOfFormulas();
        bindings();
        noBlanks();
        charactersThatCannotStand();
        textsThatEnd();
        fullTextsThatEnd();
        firstPlaceOfSeveral();
        emptyRegistersNamed();
        sixthParenthesis();
        shortTextsOfAllKinds();
        firstNamedException();
        throwingChangesNothing();
        finish();
    }

    private static void usedForAllItsCalls() {
        about("An object is used for at most 512 calls");
        SiftedGraphs swapped = fullest();
        for (int call = CALLS_OF_FULLEST; call < CALLS - 1; call++) {
            swapped.swap(4);
        }
        due("the 512th call after swaps", swapped.shared(), 134);

        SiftedGraphs sifted = withVariables();
        for (int call = 6; call < CALLS; call++) {
            due("sift as call " + (call + 1), sifted.sift(call % 6), 0);
        }

        SiftedGraphs texts = new SiftedGraphs();
        for (int call = 0; call < CALLS - 2; call += 2) {
            texts.type(packed("(a)&(b)|"), 8);
            due("read as call " + (call + 2), texts.read(call % 8), 8);
        }
        texts.type('c', 1);
        due("read as the 512th call", texts.read(0), -1);

        SiftedGraphs refusals = new SiftedGraphs();
        for (int call = 0; call < CALLS - 1; call++) {
            refused("register as call " + (call + 1), () -> refusals.set(8, 0));
        }
        due("the 512th call after refusals", refusals.shared(), 0);
    }

    private static void variablesAreSix() {
        about("VARIABLES are 0 .. 5");
        bounds("restrict", 6, (x, v) -> x.restrict(0, 1, v, true));
        bounds("restrict to 0", 6, (x, v) -> x.restrict(0, 1, v, false));
        bounds("compose", 6, (x, v) -> x.compose(0, 1, v, 2));
        bounds("sift", 6, (x, v) -> x.sift(v));
    }

    private static void variablesInFormulas() {
        about("variables told in formulas as a .. f");
        for (int v = 0; v < 6; v++) {
            SiftedGraphs x = withVariables();
            enter(x, 7, String.valueOf((char) ('a' + v)));
            due("variable " + v, x.equal(7, v), true);
        }
        due("before a", placeOf(withVariables(), "`", 0), 0);
        due("after f", placeOf(withVariables(), "g", 0), 0);
    }

    private static void assignmentsAreSixtyFour() {
        about("An ASSIGNMENT is a number 0 .. 63");
        bounds("value", 64, (x, assignment) -> x.value(0, assignment));
    }

    private static void bitsOfAssignments() {
        about("variable v is 1 in it when its bit 5 - v is 1");
        SiftedGraphs x = withVariables();
        for (int v = 0; v < 6; v++) {
            for (int bit = 0; bit < 6; bit++) {
                due(v + " at " + (1 << bit), x.value(v, 1 << bit), bit == 5 - v);
                due(v + " at all but " + (1 << bit), x.value(v, 63 - (1 << bit)), bit != 5 - v);
            }
            due(v + " at 0", x.value(v, 0), false);
            due(v + " at 63", x.value(v, 63), true);
        }
    }

    private static void registersAreEight() {
        about("REGISTERS are 0 .. 7");
        bounds("set", 8, (x, r) -> x.set(r, 0));
        bounds("apply r", 8, (x, r) -> x.apply(r, 1, 2, 8));
        bounds("apply a", 8, (x, r) -> x.apply(0, r, 2, 8));
        bounds("apply b", 8, (x, r) -> x.apply(0, 1, r, 8));
        bounds("choose r", 8, (x, r) -> x.choose(r, 1, 2, 3));
        bounds("choose a", 8, (x, r) -> x.choose(0, r, 2, 3));
        bounds("choose b", 8, (x, r) -> x.choose(0, 1, r, 3));
        bounds("choose c", 8, (x, r) -> x.choose(0, 1, 2, r));
        bounds("restrict r", 8, (x, r) -> x.restrict(r, 1, 2, true));
        bounds("restrict a", 8, (x, r) -> x.restrict(0, r, 2, true));
        bounds("compose r", 8, (x, r) -> x.compose(r, 1, 2, 3));
        bounds("compose a", 8, (x, r) -> x.compose(0, r, 2, 3));
        bounds("compose b", 8, (x, r) -> x.compose(0, 1, 2, r));
        bounds("quantify r", 8, (x, r) -> x.quantify(r, 1, 2, true));
        bounds("quantify a", 8, (x, r) -> x.quantify(0, r, 2, true));
        bounds("read", 8, (x, r) -> x.read(r));
        bounds("release", 8, (x, r) -> x.release(r));
        bounds("equal a", 8, (x, r) -> x.equal(r, 1));
        bounds("equal b", 8, (x, r) -> x.equal(1, r));
        bounds("value", 8, (x, r) -> x.value(r, 1));
        bounds("count", 8, (x, r) -> x.count(r));
        bounds("least", 8, (x, r) -> x.least(r));
        bounds("support", 8, (x, r) -> x.support(r));
        bounds("size", 8, (x, r) -> x.size(r));
    }

    private static void registersInFormulas() {
        about("registers told as A .. H");
        for (int r = 0; r < 8; r++) {
            SiftedGraphs x = new SiftedGraphs();
            for (int other = 0; other < 8; other++) {
                x.set(other, other == r ? 13 : 4);
            }
            enter(x, (r + 1) % 8, String.valueOf((char) ('A' + r)));
            due("register " + r, x.equal((r + 1) % 8, r), true);
            due("before A", placeOf(x, "@", 0), 0);
            due("after H", placeOf(x, "I", 0), 0);
        }
    }

    private static void functionOrEmpty() {
        about("each holds a function, or is EMPTY");
        SiftedGraphs x = new SiftedGraphs();
        missing("nothing", () -> x.count(4));
        x.set(4, 0);
        due("always 0", x.count(4), 0);
        x.release(4);
        missing("nothing again", () -> x.count(4));
        x.set(3, 2);
        x.release(3);
        x.set(3, 0);
        due("no value of what it held before", x.count(3), 0);
    }

    private static void levelsAreSix() {
        about("LEVELS 0 .. 5");
        bounds("width", 6, (x, level) -> x.width(level));
        bounds("variable", 6, (x, level) -> x.variable(level));
        SiftedGraphs x = withVariables();
        for (int l = 0; l < 5; l++) {
            x.swap(l);
            int sum = 0;
            for (int level = 0; level < 6; level++) {
                sum |= 1 << x.variable(level);
            }
            due("one on each, after swap " + l, sum, 63);
        }
    }

    private static void firstOrder() {
        about("at first variable v on level v");
        due("order", order(new SiftedGraphs()), "012345");
        SiftedGraphs moved = new SiftedGraphs();
        moved.swap(2);
        due("order of another object", order(new SiftedGraphs()), "012345");
    }

    private static void nodesOfHighestAndLowestLevel() {
        about("all variables on levels above l are given some values");
        SiftedGraphs highest = held("a");
        due("on the highest level alone", widths(highest), "1 0 0 0 0 0");
        SiftedGraphs lowest = held("f");
        due("on the lowest level alone", widths(lowest), "0 0 0 0 0 1");
        due("a chain", widths(held("a&b&c&d&e&f")), "1 1 1 1 1 1");
        due("pairs apart", widths(held("a&d|b&e|c&f")), "1 2 4 4 2 1");
        due("the most that one has", widths(held("a^b&e^c&f^d&e&f")), "1 2 4 8 12 2");
        due("the most that eight have", widths(fullest()), "8 16 32 64 12 2");
    }

    private static void nodesDependOnTheirVariable() {
        about("g depends on the variable on level l");
        due("levels passed by", widths(held("a&f")), "1 0 0 0 0 1");
        due("named, not depended on", widths(held("a&(c|!c)&f|d&0")), "1 0 0 0 0 1");
        due("passed by for one value", widths(held("a&b&c|!a&c")), "1 1 1 0 0 0");
        SiftedGraphs x = held("a&f");
        x.swap(0);
        due("after a swap", widths(x), "0 1 0 0 0 1");
    }

    private static void sameFunctionsAreOneNode() {
        about("Two that are the same function are one node");
        due("of two values", widths(held("(a^b)&c")), "1 2 1 0 0 0");
        SiftedGraphs x = held("a&e");
        enter(x, 3, "b&e");
        enter(x, 7, "e");
        due("of three registers", widths(x), "1 1 0 0 1 0");
        enter(x, 5, "!(!a|!e)");
        due("of two registers with one function", widths(x), "1 1 0 0 1 0");
        enter(x, 6, "!e");
        due("opposites are two", widths(x), "1 1 0 0 2 0");
    }

    private static void constantsAreNoNodes() {
        about("The functions that are always 0 or always 1 are no nodes");
        SiftedGraphs x = new SiftedGraphs();
        for (int r = 0; r < 8; r++) {
            x.set(r, r % 2);
            due("size of " + r, x.size(r), 0);
        }
        due("all", x.shared(), 0);
        due("levels", widths(x), "0 0 0 0 0 0");
    }

    private static void fortyCharacters() {
        about("FORMULAS, typed as characters, at most 40");
        String forty = "!!(a&b|c&d|e&f|a&b|c&d|e&f|a&b|c&d|e&!!f";
        SiftedGraphs x = new SiftedGraphs();
        put(x, forty.substring(0, 39) + ")");
        refused("a 41st", () -> x.type('&', 1));
        due("the text of 40", x.read(0), 39);
        put(x, forty);
        refused("a 41st", () -> x.type(')', 1));
        due("40 that need one more", x.read(0), 40);
        put(x, forty.substring(2, 38) + "f)|1");
        refused("a 41st", () -> x.type('&', 1));
        due("a formula of 40", x.read(0), -1);
        due("its last character counts", x.count(0), 64);
    }

    private static void formsOfFormulas() {
        about("0 and 1; variables; registers; (x); !x; x & y; x ^ y; x | y");
        means("0", 0);
        means("1", -1L);
        means("f", 0xAAAAAAAAAAAAAAAAL);
        means("A", 0xF0F0F0F0F0F0F0F0L);
        means("(f)", 0xAAAAAAAAAAAAAAAAL);
        means("!f", 0x5555555555555555L);
        means("!!!f", 0x5555555555555555L);
        means("e&f", 0x8888888888888888L);
        means("e^f", 0x6666666666666666L);
        means("e|f", 0xEEEEEEEEEEEEEEEEL);
        means("A&1", 0xF0F0F0F0F0F0F0F0L);
        means("!0&!!1", -1L);
    }

    private static void bindings() {
        about("! binds closest, then &, then ^, then |");
        means("!e&f", 0x2222222222222222L);
        means("!e^f", 0x9999999999999999L);
        means("!e|f", 0xBBBBBBBBBBBBBBBBL);
        means("d^e&f", 0x7878787878787878L);
        means("d&e^f", 0x6A6A6A6A6A6A6A6AL);
        means("d|e&f", 0xF8F8F8F8F8F8F8F8L);
        means("d&e|f", 0xEAEAEAEAEAEAEAEAL);
        means("d|e^f", 0xF6F6F6F6F6F6F6F6L);
        means("d^e|f", 0xBEBEBEBEBEBEBEBEL);
        means("!(e&f)", 0x7777777777777777L);
        means("!(e)&f", 0x2222222222222222L);
        means("(d^e)&f", 0x2828282828282828L);
        means("d&(e^f)", 0x6060606060606060L);
        means("(d|e)^f", 0x5656565656565656L);
        means("d^(e|f)", 0x1E1E1E1E1E1E1E1EL);
        means("c|d^e&!f", 0xFFB4FFB4FFB4FFB4L);
        means("!f&e^d|c", 0xFFB4FFB4FFB4FFB4L);
    }

    private static void noBlanks() {
        about("There are no blanks");
        String formula = "!(a&B)|c";
        for (char blank : new char[] {' ', '\t', '\n', '\r', '\0', '\u00a0'}) {
            for (int place = 0; place <= formula.length(); place++) {
                SiftedGraphs x = withVariables();
                String text = formula.substring(0, place) + blank + formula.substring(place);
                due((int) blank + " in " + text, placeOf(x, text, 0), place);
            }
        }
    }

    // Every byte at every kind of place: where an operand is due, and behind one.
    private static void charactersThatCannotStand() {
        about("the first place at which a character stands that cannot stand there");
        for (int c = 0; c < 256; c++) {
            SiftedGraphs x = withVariables();
            boolean operand = c < 128 && "01abcdefABCDEF".indexOf(c) >= 0;
            for (String before : new String[] {"", "!", "!!", "(", "a&", "a^", "a|", "(a|", "(a)&", "!("}) {
                int place = before.length();
                boolean opens = before.indexOf('(') >= 0 && before.indexOf(')') < 0;
                int alone = operand ? (opens ? place + 1 : -1) : c == '!' || c == '(' ? place + 1 : place;
                due(c + " behind " + before, placeOf(x, before + (char) c, 7), alone);
            }
            boolean operator = c == '&' || c == '^' || c == '|';
            for (String before : new String[] {"a", "0", "A", "!a", "(a)", "a&b", "(a", "((a)", "!(a|b"}) {
                int place = before.length();
                boolean closes = c == ')' && open(before) > 0;
                int alone = closes ? (open(before) == 1 ? -1 : place + 1) : operator ? place + 1 : place;
                due(c + " behind " + before, placeOf(x, before + (char) c, 7), alone);
            }
        }
    }

    private static void textsThatEnd() {
        about("the first place at which the text ends that cannot stand there");
        String formula = "!((a^!B)&0|(((c)))|d&(e))";
        for (int length = 0; length < formula.length(); length++) {
            String text = formula.substring(0, length);
            due("the end of " + text, placeOf(withVariables(), text, 7), length);
        }
        due("the whole", placeOf(withVariables(), formula, 7), -1);
        due("nothing", placeOf(new SiftedGraphs(), "", 7), 0);
        for (int length = 1; length <= 40; length++) {
            String text = "a&a&a&a&a&a&a&a&a&a&a&a&a&a&a&a&a&a&a&a&".substring(0, length);
            due("the end at " + length, placeOf(new SiftedGraphs(), text, 7), length % 2 == 1 ? -1 : length);
        }
    }

    // No room is left for what is wanted: the text fails where it ends, not where the room ran out.
    private static void fullTextsThatEnd() {
        about("a text of 40 characters ends where something is still wanted");
        for (String end : new String[] {"&", "^", "|", "&!", "|(", "^!(", "|(a", "&(a^b", "|(a&", "^(a|!", "&(a)&"}) {
            due("the end behind " + end, placeOf(new SiftedGraphs(), filledUp(end), 0), 40);
        }
        due("! alone", placeOf(new SiftedGraphs(), "!".repeat(40), 0), 40);
        for (int open = 1; open <= 5; open++) {
            String opening = "|" + "(".repeat(open);
            due(open + " opened by the last", placeOf(new SiftedGraphs(), filledUp(opening), 0), 40);
            due(open + " without room to close", placeOf(new SiftedGraphs(), filledUp(opening + "a"), 0), 40);
            String closing = opening + "a" + ")".repeat(open - 1);
            due(open + " closed but for one", placeOf(new SiftedGraphs(), filledUp(closing), 0), 40);
            due(open + " closed by the last", placeOf(new SiftedGraphs(), filledUp(closing + ")"), 0), -1);
        }
        due("a sixth as the last", placeOf(new SiftedGraphs(), filledUp("|(((((("), 0), 39);
        due("an empty register as the last", placeOf(new SiftedGraphs(), filledUp("|H"), 0), 39);
        due("a character that cannot stand as the last", placeOf(new SiftedGraphs(), filledUp("|&"), 0), 39);
    }

    /** A text of 40 characters: an operand with as many ! before it as are needed, then this end. */
    private static String filledUp(String end) {
        return "!".repeat(39 - end.length()) + "a" + end;
    }

    private static void firstPlaceOfSeveral() {
        about("READ from left to right; FAILS at the first place");
        due("character, then register", placeOf(withVariables(), "a&&G", 0), 2);
        due("register, then character", placeOf(withVariables(), "a&G&&", 0), 2);
        due("register, then end", placeOf(withVariables(), "(G", 0), 1);
        due("register, then parenthesis", placeOf(withVariables(), "G&((((((a", 0), 0);
        due("parenthesis, then register", placeOf(withVariables(), "((((((G", 0), 5);
        due("parenthesis, then character", placeOf(withVariables(), "((((((&", 0), 5);
        due("character, then parenthesis", placeOf(withVariables(), "a((((((", 0), 1);
        due("two registers", placeOf(withVariables(), "a|H&G", 0), 2);
        due("a register where no operand can stand", placeOf(withVariables(), "a&bG", 0), 3);
    }

    private static void emptyRegistersNamed() {
        about("FAILS where a register that is empty is named");
        for (int r = 0; r < 8; r++) {
            SiftedGraphs x = new SiftedGraphs();
            for (int other = 0; other < 8; other++) {
                x.set(other, 2 + other % 2);
            }
            char name = (char) ('A' + r);
            due("full " + name, placeOf(x, "a&" + name, r), -1);
            x.release(r);
            due("empty " + name, placeOf(x, "a&" + name, r), 2);
            due("empty " + name + ", its value not needed", placeOf(x, "0&" + name + "|1", r), 2);
            due("still empty " + name, told(x, r), "empty");
        }
    }

    private static void sixthParenthesis() {
        about("FAILS where a parenthesis would be the sixth that is open");
        due("five", placeOf(new SiftedGraphs(), "(((((a)))))", 0), -1);
        due("six", placeOf(new SiftedGraphs(), "((((((a))))))", 0), 5);
        due("six with ! between", placeOf(new SiftedGraphs(), "!(!(!(!(!(!(a))))))", 0), 11);
        due("six with operands between", placeOf(new SiftedGraphs(), "(a&(b|(c^(d&(e|(f", 0), 15);
        due("eight in turn, one open at a time", placeOf(new SiftedGraphs(), "(a)&(b)&(c)&(d)&(e)&(f)&(a)&(b)", 0), -1);
        due("five, then five", placeOf(new SiftedGraphs(), "(((((a)))))^(((((b)))))", 0), -1);
        due("five again behind one closed", placeOf(new SiftedGraphs(), "(((((a)&(b)))))", 0), -1);
        due("six behind one closed", placeOf(new SiftedGraphs(), "(((((a)&((b", 0), 9);
        due("six where none can stand", placeOf(new SiftedGraphs(), "(((((a(", 0), 6);
        means("!(!(!(!(!(f)))))", 0x5555555555555555L);
        means("(f|(e&(d|(f&(e)))))", 0xEAEAEAEAEAEAEAEAL);
    }

    // All texts of up to four characters; what can follow a start is found by trying.
    private static void shortTextsOfAllKinds() {
        about("cannot stand there whatever followed");
        String kinds = "1aAG()!&^| ";
        List<String> texts = new ArrayList<>(List.of(""));
        for (int i = 0; i < texts.size() && texts.get(i).length() < 4; i++) {
            for (char c : kinds.toCharArray()) {
                texts.add(texts.get(i) + c);
            }
        }
        SiftedGraphs x = withVariables();
        for (int i = 0; i < texts.size(); i++) {
            if (i % 100 == 0) {
                x = withVariables();
            }
            due("reading " + texts.get(i), placeOf(x, texts.get(i), 7), placeByTrying(texts.get(i)));
        }
    }

    private static int placeByTrying(String text) {
        for (int place = 0; place < text.length(); place++) {
            if (!canGoOn(text.substring(0, place + 1))) {
                return place;
            }
        }
        return isFormula(text) ? -1 : text.length();
    }

    private static boolean canGoOn(String start) {
        String end = "";
        for (int closing = 0; closing <= start.length(); closing++) {
            if (isFormula(start + end) || isFormula(start + "a" + end)) {
                return true;
            }
            end += ")";
        }
        return false;
    }

    // A is full and G is empty in the objects that these texts are for.
    private static boolean isFormula(String text) {
        String before = "";
        String now = text.replace('1', 'a').replace('A', 'a').replace('^', '&').replace('|', '&');
        while (!now.equals(before)) {
            before = now;
            now = now.replace("!a", "a").replace("(a)", "a").replace("a&a", "a");
        }
        return now.equals("a");
    }

    // Every mixture of right numbers, wrong numbers, full and empty registers.
    private static void firstNamedException() {
        about("the one named first when several would do");
        int[] registers = {-1, 0, 6, 8};
        for (int a : registers) {
            thrown(a, 0, 0, 0, x -> x.count(a));
            thrown(a, 0, 0, 0, x -> x.least(a));
            thrown(a, 0, 0, 0, x -> x.support(a));
            thrown(a, 0, 0, 0, x -> x.size(a));
            for (int other : registers) {
                thrown(a, other, 0, 0, x -> x.equal(a, other));
                // 6 as an assignment, a set or an operation is in bounds, as a variable it is not.
                boolean six = other == 6;
                thrown(a, other == -1 ? -1 : 0, 0, 0, x -> x.value(a, other == -1 ? -1 : 63));
                thrown(a, other == 8 ? 8 : 0, 0, 0, x -> x.value(a, other == 8 ? 64 : 0));
                for (int r : new int[] {-1, 0, 7, 8}) {
                    int into = r == 7 ? 0 : r;
                    thrown(into, a, other, 0, x -> x.apply(r, a, other, 6));
                    thrown(into, a, other, -1, x -> x.apply(r, a, other, -1));
                    thrown(into, a, other, 8, x -> x.apply(r, a, other, 16));
                    thrown(into, a, six ? 8 : other, 0, x -> x.restrict(r, a, other, true));
                    thrown(into, a, other == -1 ? -1 : 0, 0, x -> x.quantify(r, a, other == -1 ? -1 : 63, true));
                    thrown(into, a, other == 8 ? 8 : 0, 0, x -> x.quantify(r, a, other == 8 ? 64 : 0, false));
                    for (int last : registers) {
                        thrown(into, a, other, last, x -> x.choose(r, a, other, last));
                        thrown(into, a, six ? 8 : other, last, x -> x.compose(r, a, other, last));
                    }
                }
            }
        }
    }

    // -1 and 8 stand for numbers out of bounds, 6 for an empty register, 0 for what is right.
    private static void thrown(int first, int second, int third, int fourth, CallOn call) {
        boolean wrongNumber = false;
        boolean empty = false;
        for (int number : new int[] {first, second, third, fourth}) {
            wrongNumber |= number == -1 || number == 8;
            empty |= number == 6;
        }
        SiftedGraphs x = withVariables();
        String due = wrongNumber ? "IllegalArgumentException" : empty ? "NoSuchElementException" : "nothing";
        String what = "with " + first + ", " + second + ", " + third + ", " + fourth;
        due(what, thrownBy(() -> call.make(x)), due);
    }

    private static void throwingChangesNothing() {
        about("A call that throws changes nothing");
        String before = state(readied());
        for (int bad : new int[] {-1, 8, Integer.MIN_VALUE, Integer.MAX_VALUE}) {
            unchanged(before, "I", x -> x.set(bad, 1));
            unchanged(before, "I", x -> x.apply(bad, 0, 1, 6));
            unchanged(before, "I", x -> x.apply(0, bad, 1, 6));
            unchanged(before, "I", x -> x.apply(0, 1, bad, 6));
            unchanged(before, "I", x -> x.choose(bad, 0, 1, 2));
            unchanged(before, "I", x -> x.choose(0, bad, 1, 2));
            unchanged(before, "I", x -> x.choose(0, 1, bad, 2));
            unchanged(before, "I", x -> x.choose(0, 1, 2, bad));
            unchanged(before, "I", x -> x.restrict(bad, 0, 1, true));
            unchanged(before, "I", x -> x.restrict(0, bad, 1, true));
            unchanged(before, "I", x -> x.restrict(0, 1, bad, true));
            unchanged(before, "I", x -> x.compose(bad, 0, 1, 2));
            unchanged(before, "I", x -> x.compose(0, bad, 1, 2));
            unchanged(before, "I", x -> x.compose(0, 1, bad, 2));
            unchanged(before, "I", x -> x.compose(0, 1, 1, bad));
            unchanged(before, "I", x -> x.quantify(bad, 0, 1, true));
            unchanged(before, "I", x -> x.quantify(0, bad, 1, true));
            unchanged(before, "I", x -> x.type(packed("&a"), bad == 8 ? 9 : bad));
            unchanged(before, "I", x -> x.read(bad));
            unchanged(before, "I", x -> x.release(bad));
            unchanged(before, "I", x -> x.equal(bad, 0));
            unchanged(before, "I", x -> x.equal(0, bad));
            unchanged(before, "I", x -> x.value(bad, 0));
            unchanged(before, "I", x -> x.count(bad));
            unchanged(before, "I", x -> x.least(bad));
            unchanged(before, "I", x -> x.support(bad));
            unchanged(before, "I", x -> x.size(bad));
            unchanged(before, "I", x -> x.width(bad));
            unchanged(before, "I", x -> x.variable(bad));
            unchanged(before, "I", x -> x.swap(bad));
            unchanged(before, "I", x -> x.sift(bad));
        }
        unchanged(before, "I", x -> x.set(0, 14));
        unchanged(before, "I", x -> x.apply(0, 1, 2, 16));
        unchanged(before, "I", x -> x.quantify(0, 1, 64, true));
        unchanged(before, "I", x -> x.type(packed("&a"), 0));
        unchanged(before, "I", x -> x.value(0, 64));
        unchanged(before, "I", x -> x.swap(5));
        unchanged(before, "N", x -> x.apply(0, 6, 1, 6));
        unchanged(before, "N", x -> x.apply(0, 1, 6, 6));
        unchanged(before, "N", x -> x.choose(0, 6, 1, 2));
        unchanged(before, "N", x -> x.choose(0, 1, 6, 2));
        unchanged(before, "N", x -> x.choose(0, 1, 2, 6));
        unchanged(before, "N", x -> x.restrict(0, 6, 1, true));
        unchanged(before, "N", x -> x.restrict(6, 6, 1, true));
        unchanged(before, "N", x -> x.compose(0, 6, 1, 1));
        unchanged(before, "N", x -> x.compose(0, 1, 1, 6));
        unchanged(before, "N", x -> x.quantify(0, 6, 0, false));
        unchanged(before, "N", x -> x.quantify(6, 6, 0, false));
        unchanged(before, "N", x -> x.equal(6, 0));
        unchanged(before, "N", x -> x.equal(0, 6));
        unchanged(before, "N", x -> x.value(6, 0));
        unchanged(before, "N", x -> x.count(6));
        unchanged(before, "N", x -> x.least(6));
        unchanged(before, "N", x -> x.support(6));
        unchanged(before, "N", x -> x.size(6));
        tooMuchTypedChangesNothing();
    }

    private static void tooMuchTypedChangesNothing() {
        String forty = "a^b&(c|d)^e&(f|a)^b&(c|d)^e&(f|a)^b&!(c)";
        for (int length = 33; length <= 40; length++) {
            SiftedGraphs x = new SiftedGraphs();
            put(x, forty.substring(0, length));
            for (int n = 41 - length; n <= 8; n++) {
                int more = n;
                refused(length + " and " + n, () -> x.type(packed("))))))))"), more));
            }
            put(x, forty.substring(length));
            due("read after refusals at " + length, x.read(0), -1);
            due("what it says", told(x, 0), told(held(forty), 0));
        }
    }

    private static void unchanged(String before, String name, CallOn call) {
        SiftedGraphs x = readied();
        String due = name.equals("I") ? "IllegalArgumentException" : "NoSuchElementException";
        due("the call", thrownBy(() -> call.make(x)), due);
        due("the state after it", state(x), before);
    }

    /** Three full registers, another order than the first, and a text that waits for its end. */
    private static SiftedGraphs readied() {
        SiftedGraphs x = held("a&d|b&e|c&f");
        enter(x, 1, "a^c&!f");
        enter(x, 2, "b|A&d");
        x.swap(1);
        x.swap(3);
        x.swap(4);
        put(x, "A&!(b|");
        return x;
    }

    private static String state(SiftedGraphs x) {
        StringBuilder state = new StringBuilder();
        for (int r = 0; r < 8; r++) {
            state.append(told(x, r)).append(' ');
        }
        state.append(order(x)).append(' ').append(widths(x)).append(" typed ");
        state.append(x.type(packed("f)"), 2)).append(" read ").append(x.read(7)).append(' ');
        return state.append(told(x, 7)).toString();
    }

    /** All numbers below the bound are taken, those beyond it refused, whatever else is there. */
    private static void bounds(String what, int bound, OpenCall call) {
        SiftedGraphs full = new SiftedGraphs();
        for (int r = 0; r < 8; r++) {
            full.set(r, 2 + r % 6);
        }
        for (int number = 0; number < bound; number++) {
            int right = number;
            goesThrough(what + " " + right, () -> call.make(full, right));
            // So that a register which the call has emptied is full for the next number.
            full.set(number % 8, 3);
        }
        for (int bad : beyond(bound)) {
            refused(what + " " + bad, () -> call.make(full, bad));
            refused(what + " " + bad + " of a new object", () -> call.make(new SiftedGraphs(), bad));
        }
    }

    private static void means(String formula, long table) {
        SiftedGraphs x = new SiftedGraphs();
        x.set(0, 8);
        enter(x, 7, formula);
        due(formula, told(x, 7), told(table));
    }

    private static int open(String text) {
        int open = 0;
        for (char c : text.toCharArray()) {
            open += c == '(' ? 1 : c == ')' ? -1 : 0;
        }
        return open;
    }
}
