/**
 * The boundary cases that the promises name, promise by promise: too small, too large, empty, full,
 * wrapped around, refused. No object gets more than the 512 calls that are promised.
 */
public final class BoundaryTests extends Checks {
    // Depends on all six variables, on each of them in another way.
    private static final String MIXED = "a&b^c&!d|e&(f^a)";

    public static void main(String[] args) {
        newObjectIsEmpty();
        newObjectHasNothingTyped();
        setCodes();
        setReplaces();
        applyBits();
        applyOperations();
        applyInPlace();
        chooseValues();
        chooseInPlace();
        restrictValues();
        restrictTwice();
        composeValues();
        composeWithItself();
        quantifySets();
        quantifyOfNoVariables();
        quantifyOfAllVariables();
        typeTakesOneToEight();
        typeTakesTheLowestBytes();
        typeUpToForty();
        typeDoesNotWrapAround();
        readOfNothing();
        readTakesTheTextAway();
        readThatFails();
        readIntoItsOwnRegister();
        readThatIsRefused();
        releaseOfFullAndEmpty();
        equalFunctions();
        valuesOfFirstAndLast();
        countsOfNoneAndAll();
        leastOfNoneAndAll();
        supportsOfNoneAndAll();
        sizesOfNoneAndMost();
        sharedByNoneAndMost();
        widthsOfNoneAndMost();
        variablesOnLevels();
        swapsOfFirstAndLast();
        swapAnswersShared();
        siftWithoutNodes();
        siftOfSeveralTheLeast();
        siftToEachLevel();
        siftThatStays();
        siftCountsAllRegisters();
        siftChangesNoFunction();
        finish();
    }

    private static void newObjectIsEmpty() {
        about("1: All registers are empty");
        SiftedGraphs x = new SiftedGraphs();
        for (int r = 0; r < 8; r++) {
            due("register " + r, told(x, r), "empty");
            due("release of " + r, x.release(r), false);
        }
        due("shared", x.shared(), 0);
        SiftedGraphs full = withVariables();
        due("beside another object", told(new SiftedGraphs(), 0), "empty");
        due("the other object", full.count(0), 32);
    }

    private static void newObjectHasNothingTyped() {
        about("1: nothing is typed");
        due("read", new SiftedGraphs().read(0), 0);
        due("type", new SiftedGraphs().type('a', 1), 1);
        SiftedGraphs other = new SiftedGraphs();
        other.type('a', 1);
        due("read beside another object", new SiftedGraphs().read(0), 0);
    }

    private static void setCodes() {
        about("2: 0 always 0, 1 always 1, 2 + 2 v variable v, 3 + 2 v its opposite");
        long[] tables = {
            0, 0xFFFFFFFF00000000L, 0xFFFF0000FFFF0000L, 0xFF00FF00FF00FF00L,
            0xF0F0F0F0F0F0F0F0L, 0xCCCCCCCCCCCCCCCCL, 0xAAAAAAAAAAAAAAAAL
        };
        for (int code = 0; code < 14; code++) {
            SiftedGraphs x = new SiftedGraphs();
            x.set(code % 8, code);
            long even = tables[code / 2];
            due("code " + code, told(x, code % 8), told(code % 2 == 0 ? even : ~even));
        }
        for (int bad : beyond(14)) {
            refused("code " + bad, () -> new SiftedGraphs().set(0, bad));
        }
    }

    private static void setReplaces() {
        about("2: Register r holds what a code says from now on");
        SiftedGraphs x = held(MIXED);
        x.set(0, 0);
        due("always 0", x.count(0), 0);
        x.set(0, 1);
        due("always 1", x.count(0), 64);
        x.set(0, 13);
        due("the opposite of the last", x.support(0), 32);
        due("another register", told(x, 1), "empty");
    }

    private static void applyBits() {
        about("3: bit (2 * x + y) of operation");
        for (int operation = 0; operation < 16; operation++) {
            SiftedGraphs x = new SiftedGraphs();
            for (int values = 0; values < 4; values++) {
                x.set(2, values / 2);
                x.set(3, values % 2);
                x.apply(4, 2, 3, operation);
                due(operation + " of " + values, x.count(4), (operation >> values & 1) == 1 ? 64 : 0);
            }
        }
    }

    private static void applyOperations() {
        about("3: operation (0 .. 15)");
        SiftedGraphs x = withVariables();
        x.apply(7, 0, 5, 0);
        due("0", x.count(7), 0);
        x.apply(7, 0, 5, 15);
        due("15", x.count(7), 64);
        for (int bad : beyond(16)) {
            refused("operation " + bad, () -> x.apply(7, 0, 5, bad));
        }
        missing("15 of an empty a", () -> x.apply(7, 6, 0, 15));
        missing("0 of an empty b", () -> x.apply(7, 0, 6, 0));
        due("7 after all", x.count(7), 64);
    }

    private static void applyInPlace() {
        about("3: Register r holds, r being a or b");
        SiftedGraphs x = withVariables();
        x.apply(0, 0, 1, 2);
        due("r is a", x.least(0), 16);
        x.apply(3, 2, 3, 4);
        due("r is b", x.least(3), 8);
        x.apply(4, 4, 4, 9);
        due("all one", x.count(4), 64);
        due("2 stays", x.support(2), 4);
        due("1 stays", x.support(1), 2);
    }

    private static void chooseValues() {
        about("4: the value of b where a is 1, of c where it is 0");
        SiftedGraphs x = new SiftedGraphs();
        for (int values = 0; values < 8; values++) {
            x.set(0, values / 4);
            x.set(1, values / 2 % 2);
            x.set(2, values % 2);
            x.choose(3, 0, 1, 2);
            due("of " + values, x.count(3) == 64, values >= 4 ? values / 2 % 2 == 1 : values % 2 == 1);
        }
        x.set(4, 2);
        x.set(5, 4);
        x.set(6, 6);
        x.choose(7, 4, 5, 6);
        due("of variables", told(x, 7), told(0xFFFF0000FF00FF00L));
        x.release(6);
        x.set(4, 1);
        missing("an empty c that no value is taken of", () -> x.choose(7, 4, 5, 6));
        x.set(4, 0);
        missing("an empty b that no value is taken of", () -> x.choose(7, 4, 6, 5));
        missing("an empty a", () -> x.choose(7, 6, 5, 5));
    }

    private static void chooseInPlace() {
        about("4: Register r holds, r being a, b or c");
        for (int r = 0; r < 3; r++) {
            SiftedGraphs x = withVariables();
            x.choose(r, 0, 1, 2);
            due("r is " + r, told(x, r), told(0xFFFF0000FF00FF00L));
        }
        SiftedGraphs x = withVariables();
        x.choose(0, 0, 0, 0);
        due("all one", x.least(0), 32);
        x.choose(1, 0, 2, 0);
        due("a is c", x.count(1), 16);
        x.choose(1, 0, 0, 2);
        due("a is b", x.count(1), 48);
    }

    private static void restrictValues() {
        about("5: a with variable v having this value");
        String mixed = told(held(MIXED), 0);
        for (int v = 0; v < 6; v++) {
            SiftedGraphs x = held(MIXED);
            x.restrict(1, 0, v, false);
            x.restrict(2, 0, v, true);
            due(v + " having 0", told(x, 1), given(mixed, v, false));
            due(v + " having 1", told(x, 2), given(mixed, v, true));
            due("a stays", told(x, 0), mixed);
        }
    }

    private static void restrictTwice() {
        about("5: r being a, v being none that a depends on");
        for (int v = 0; v < 6; v++) {
            SiftedGraphs x = held(MIXED);
            x.restrict(0, 0, v, true);
            due("support without " + v, x.support(0) & 1 << v, 0);
            x.restrict(1, 0, v, false);
            due("a second time " + v, x.equal(0, 1), true);
            x.set(2, v % 2);
            x.restrict(2, 2, v, v < 3);
            due("a constant", x.count(2), v % 2 * 64);
        }
    }

    private static void composeValues() {
        about("6: a with variable v having the value of b");
        String mixed = told(held(MIXED), 0);
        for (int v = 0; v < 6; v++) {
            SiftedGraphs x = held(MIXED);
            x.set(1, 0);
            x.set(2, 1);
            x.compose(1, 0, v, 1);
            x.compose(2, 0, v, 2);
            due(v + " having always 0", told(x, 1), given(mixed, v, false));
            due(v + " having always 1", told(x, 2), given(mixed, v, true));
            x.set(3, 2 + 2 * v);
            x.compose(3, 0, v, 3);
            due(v + " having itself", told(x, 3), mixed);
            x.set(4, 3 + 2 * v);
            x.compose(4, 0, v, 4);
            due(v + " turned to its opposite", told(x, 4), turned(mixed, v));
        }
    }

    private static void composeWithItself() {
        about("6: b being a, v being none that a depends on");
        SiftedGraphs x = held("a&b|!a&c");
        x.compose(0, 0, 5, 0);
        due("not depended on", told(x, 0), told(0xFFFF0000FF00FF00L));
        x.compose(0, 0, 0, 0);
        due("for a", told(x, 0), told(held("(a&b|!a&c)&b|!(a&b|!a&c)&c"), 0));
        missing("an empty b for a variable that does not matter", () -> x.compose(1, 0, 5, 7));
        missing("an empty a", () -> x.compose(1, 7, 0, 0));
        due("1 stays empty", told(x, 1), "empty");
    }

    private static void quantifySets() {
        about("7: a set, the sum of 1 << v, 0 .. 63");
        String mixed = told(held(MIXED), 0);
        for (int set = 0; set < 64; set++) {
            SiftedGraphs x = held(MIXED);
            x.quantify(1, 0, set, false);
            x.quantify(0, 0, set, true);
            due("some of " + set, told(x, 1), over(mixed, set, false));
            due("all of " + set, told(x, 0), over(mixed, set, true));
        }
        for (int bad : beyond(64)) {
            refused("set " + bad, () -> held(MIXED).quantify(1, 0, bad, false));
            refused("set " + bad, () -> held(MIXED).quantify(1, 0, bad, true));
        }
    }

    private static void quantifyOfNoVariables() {
        about("7: the set of no variables");
        SiftedGraphs x = held(MIXED);
        x.quantify(1, 0, 0, false);
        x.quantify(2, 0, 0, true);
        due("some", x.equal(0, 1), true);
        due("all", x.equal(0, 2), true);
        missing("of an empty register", () -> x.quantify(1, 7, 0, true));
    }

    private static void quantifyOfAllVariables() {
        about("7: the set of all variables");
        SiftedGraphs x = held("a&b&c&d&e&f");
        x.quantify(1, 0, 63, false);
        due("some, of one assignment", x.count(1), 64);
        x.quantify(1, 0, 63, true);
        due("all, of one assignment", x.count(1), 0);
        enter(x, 0, "a|b|c|d|e|f");
        x.quantify(1, 0, 63, true);
        due("all, of all but one", x.count(1), 0);
        for (int constant = 0; constant < 2; constant++) {
            x.set(2, constant);
            x.quantify(3, 2, 63, false);
            x.quantify(4, 2, 63, true);
            due("some, of always " + constant, x.count(3), 64 * constant);
            due("all, of always " + constant, x.count(4), 64 * constant);
        }
    }

    private static void typeTakesOneToEight() {
        about("8: n is not 1 .. 8");
        for (int n = 1; n <= 8; n++) {
            due("n " + n, new SiftedGraphs().type(packed("!!!!!!!a"), n), n);
        }
        for (int bad : new int[] {0, -1, -8, 9, 10, 16, 40, 41, 256, 257, 1 << 16, Integer.MIN_VALUE, Integer.MAX_VALUE}) {
            refused("n " + bad, () -> new SiftedGraphs().type(packed("!!!!!!!a"), bad));
        }
    }

    private static void typeTakesTheLowestBytes() {
        about("8: the n lowest bytes of characters, the highest of them first");
        String eight = "a&!b|!!c";
        for (int n = 1; n <= 8; n++) {
            // What stands above the n bytes would spoil the text.
            SiftedGraphs x = new SiftedGraphs();
            long spoiled = n == 8 ? 0 : -1L << 8 * n;
            x.type(spoiled | packed(eight.substring(8 - n)), n);
            SiftedGraphs letters = new SiftedGraphs();
            put(letters, eight.substring(8 - n));
            due("reading " + n, x.read(0), letters.read(0));
            due("meaning of " + n, told(x, 0), told(letters, 0));
        }
        SiftedGraphs x = new SiftedGraphs();
        x.type(packed("a&!b|!!c"), 8);
        due("eight", x.read(0), -1);
        due("what they say", told(x, 0), told(0xFF00FFFFFF00FF00L));
        x.type(packed("!f"), 2);
        due("two", x.read(0), -1);
        x.type(packed("f!"), 2);
        due("two the other way", x.read(0), 1);
        x.type(0x8000000000000061L, 8);
        due("a highest byte above 127", x.read(0), 0);
        x.type(0x6100000000000000L, 8);
        due("lowest bytes of 0", x.read(0), 1);
        x.type(0x161L, 1);
        due("a byte alone", x.read(0), -1);
        x.type(packed("a&"), 2);
        x.type(packed("b&"), 2);
        due("a third time", x.type('c', 1), 5);
        due("all three", x.read(0), -1);
        due("what all three say", x.count(0), 8);
    }

    private static void typeUpToForty() {
        about("8: more than 40 would be");
        for (int length = 0; length <= 40; length++) {
            for (int n = 1; n <= 8; n++) {
                SiftedGraphs x = new SiftedGraphs();
                put(x, "!".repeat(length));
                int more = n;
                if (length + n <= 40) {
                    due(n + " more than " + length, x.type(packed("!!!!!!!a"), n), length + n);
                    due("read", x.read(0), -1);
                    due("all are read", x.value(0, 63), (length + n) % 2 == 1);
                } else {
                    refused(n + " more than " + length, () -> x.type(packed("!!!!!!!a"), more));
                    due("the text without them", x.read(0), length);
                }
                due("type afterwards", x.type('a', 1), 1);
            }
        }
    }

    private static void typeDoesNotWrapAround() {
        about("8: n is not 1 .. 8, with a text before it");
        for (int length : new int[] {1, 8, 39, 40}) {
            SiftedGraphs x = new SiftedGraphs();
            put(x, "!".repeat(length));
            int[] wrong = {
                Integer.MAX_VALUE, Integer.MAX_VALUE - length, Integer.MAX_VALUE - length + 1, Integer.MIN_VALUE, -length, -1, 0, 9
            };
            for (int bad : wrong) {
                refused("n " + bad + " behind " + length, () -> x.type('a', bad));
            }
            due("the text before", x.read(0), length);
        }
    }

    private static void readOfNothing() {
        about("9: reads the typed text, which is none");
        SiftedGraphs x = withVariables();
        due("a text of nothing into a full register", x.read(0), 0);
        due("it stays", x.support(0), 1);
        due("a text of nothing into an empty register", x.read(7), 0);
        due("it stays empty", told(x, 7), "empty");
    }

    private static void readTakesTheTextAway() {
        about("9: nothing is typed afterwards");
        SiftedGraphs x = new SiftedGraphs();
        for (String text : new String[] {"a", "a&", "(", "H", "!".repeat(40), "!".repeat(39) + "a"}) {
            put(x, text);
            x.read(0);
            due("read again", x.read(0), 0);
            put(x, text);
            x.read(0);
            due("type after it", x.type('b', 1), 1);
            due("read that", x.read(0), -1);
            due("what it says", x.support(0), 2);
        }
    }

    private static void readThatFails() {
        about("9: the place is answered at which it failed, and no register changes");
        String[] texts = {"", "&", "a&", "a&&b", "(a", "a)", "H", "a^H", "((((((a", "A|B|H", "a|b "};
        int[] places = {0, 0, 2, 2, 2, 1, 0, 2, 5, 4, 3};
        for (int i = 0; i < texts.length; i++) {
            for (int r : new int[] {0, 1, 7}) {
                SiftedGraphs x = held(MIXED);
                x.set(1, 5);
                String first = told(x, 0);
                due("reading " + texts[i], placeOf(x, texts[i], r), places[i]);
                due("register 0", told(x, 0), first);
                due("register 1", told(x, 1), told(~0xFFFF0000FFFF0000L));
                for (int other = 2; other < 8; other++) {
                    due("register " + other, x.release(other), false);
                }
            }
        }
    }

    private static void readIntoItsOwnRegister() {
        about("9: Register r holds what it says, r being named in it");
        SiftedGraphs x = new SiftedGraphs();
        for (int r = 0; r < 8; r++) {
            char name = (char) ('A' + r);
            due("while it is empty", placeOf(x, "!" + name, r), 1);
            x.set(r, 12);
            due("while it is full", placeOf(x, "!" + name + "&" + name + "|!" + name, r), -1);
            due("what it says", x.least(r), 0);
            due("of which variables", x.support(r), 32);
        }
    }

    private static void readThatIsRefused() {
        about("9: IllegalArgumentException (the text stays)");
        for (String text : new String[] {"a^b", "a&", ""}) {
            SiftedGraphs x = new SiftedGraphs();
            put(x, text);
            for (int bad : beyond(8)) {
                refused("register " + bad, () -> x.read(bad));
            }
            due("type after it", x.type(packed("|c"), 2), text.length() + 2);
            due("read after it", x.read(0), text.equals("a^b") ? -1 : text.length());
        }
    }

    private static void releaseOfFullAndEmpty() {
        about("10: Register r is empty from now on; whether it was not");
        for (int r = 0; r < 8; r++) {
            SiftedGraphs x = new SiftedGraphs();
            for (int other = 0; other < 8; other++) {
                x.set(other, other % 2 == 0 ? 0 : 3);
            }
            due("full " + r, x.release(r), true);
            due("it is empty", told(x, r), "empty");
            due("empty " + r, x.release(r), false);
            for (int other = 0; other < 8; other++) {
                due("only it", x.release(other), other != r);
            }
            x.set(r, 1);
            due("full again", x.release(r), true);
        }
    }

    private static void equalFunctions() {
        about("11: Whether two registers hold the same function");
        SiftedGraphs x = held("a&b&c&d&e&f");
        x.set(1, 0);
        due("apart in the last assignment", x.equal(0, 1), false);
        enter(x, 0, "!a&!b&!c&!d&!e&!f");
        due("apart in the first assignment", x.equal(0, 1), false);
        x.set(2, 1);
        due("always 0 and always 1", x.equal(1, 2), false);
        x.apply(3, 0, 0, 6);
        due("always 0 in two ways", x.equal(1, 3), true);
        due("itself", x.equal(0, 0), true);
        missing("empty a", () -> x.equal(7, 0));
        missing("empty b", () -> x.equal(0, 7));
        missing("empty both", () -> x.equal(6, 7));
        missing("empty itself", () -> x.equal(7, 7));
    }

    private static void valuesOfFirstAndLast() {
        about("12: The value of register a for an assignment");
        SiftedGraphs x = held("!a&!b&!c&!d&!e&!f");
        enter(x, 7, "a&b&c&d&e&f");
        for (int i = 0; i < 64; i++) {
            due("the first at " + i, x.value(0, i), i == 0);
            due("the last at " + i, x.value(7, i), i == 63);
        }
        for (int bad : beyond(64)) {
            refused("assignment " + bad, () -> x.value(0, bad));
            refused("assignment " + bad + " of an empty register", () -> x.value(6, bad));
        }
        missing("0 of an empty register", () -> x.value(6, 0));
        missing("63 of an empty register", () -> x.value(6, 63));
    }

    private static void countsOfNoneAndAll() {
        about("13: For how many of the 64 assignments");
        due("none", held("0").count(0), 0);
        due("all", held("1").count(0), 64);
        due("the first alone", held("!a&!b&!c&!d&!e&!f").count(0), 1);
        due("the last alone", held("a&b&c&d&e&f").count(0), 1);
        due("all but the last", held("!(a&b&c&d&e&f)").count(0), 63);
        missing("of an empty register", () -> held("a").count(1));
    }

    private static void leastOfNoneAndAll() {
        about("14: The least assignment; -1 when there is none");
        due("none", held("0").least(0), -1);
        due("all", held("1").least(0), 0);
        due("the first alone", held("!a&!b&!c&!d&!e&!f").least(0), 0);
        due("the last alone", held("a&b&c&d&e&f").least(0), 63);
        due("all but the first", held("a|b|c|d|e|f").least(0), 1);
        due("upper half alone", held("a&!(b&c)").least(0), 32);
        missing("of an empty register", () -> held("a").least(1));
    }

    private static void supportsOfNoneAndAll() {
        about("15: The set of the variables that register a depends on");
        due("always 0", held("0").support(0), 0);
        due("always 1", held("1").support(0), 0);
        due("all", held("a&b&c&d&e&f").support(0), 63);
        for (int v = 0; v < 6; v++) {
            char name = (char) ('a' + v);
            due(name + " alone", held("!" + name).support(0), 1 << v);
            due(name + " without effect", held(name + "^" + name).support(0), 0);
            SiftedGraphs x = held("a^b^c^d^e^f");
            x.restrict(0, 0, v, true);
            due("all but " + name, x.support(0), 63 - (1 << v));
        }
        missing("of an empty register", () -> held("a").support(1));
    }

    private static void sizesOfNoneAndMost() {
        about("16: How many nodes register a has");
        due("always 0", held("0").size(0), 0);
        due("always 1", held("1").size(0), 0);
        due("one", held("!f").size(0), 1);
        due("the most", held("a^b&e^c&f^d&e&f").size(0), 29);
        SiftedGraphs x = fullest();
        for (int r = 0; r < 8; r++) {
            due("one of eight, " + r, x.size(r), 23);
        }
        x.release(3);
        missing("of an empty register", () -> x.size(3));
    }

    private static void sharedByNoneAndMost() {
        about("17: How many nodes all registers have together");
        SiftedGraphs x = fullest();
        due("the most", x.shared(), 134);
        for (int r = 0; r < 8; r++) {
            x.set(r, r % 2);
        }
        due("none of constants", x.shared(), 0);
        for (int r = 0; r < 8; r++) {
            x.set(r, 10);
        }
        due("one of eight alike", x.shared(), 1);
        for (int r = 0; r < 8; r++) {
            x.release(r);
        }
        due("none of empty registers", x.shared(), 0);
    }

    private static void widthsOfNoneAndMost() {
        about("18: How many of these are on a level");
        due("of a new object", widths(new SiftedGraphs()), "0 0 0 0 0 0");
        due("of variables", widths(withVariables()), "1 1 1 1 1 1");
        due("the most", widths(fullest()), "8 16 32 64 12 2");
        SiftedGraphs x = held("f");
        x.set(7, 3);
        x.swap(0);
        due("the variable's level, not its number", widths(x), "0 1 0 0 0 1");
    }

    private static void variablesOnLevels() {
        about("19: The variable on a level");
        SiftedGraphs x = new SiftedGraphs();
        due("at first", order(x), "012345");
        x.swap(0);
        due("the first two", order(x), "102345");
        x.swap(4);
        due("the last two", order(x), "102354");
        x.swap(0);
        x.swap(4);
        due("back", order(x), "012345");
        x.sift(5);
        due("after sift", order(x), "501234");
    }

    private static void swapsOfFirstAndLast() {
        about("20: l is not 0 .. 4");
        for (int l = 0; l < 5; l++) {
            SiftedGraphs x = new SiftedGraphs();
            due("of no nodes, " + l, x.swap(l), 0);
            String due = "012345".substring(0, l) + (l + 1) + l + "012345".substring(l + 2);
            due("order after " + l, order(x), due);
            x.swap(l);
            due("order after " + l + " twice", order(x), "012345");
        }
        SiftedGraphs x = withVariables();
        for (int bad : beyond(5)) {
            refused("l " + bad, () -> x.swap(bad));
        }
        due("order after refusals", order(x), "012345");
    }

    private static void swapAnswersShared() {
        about("20: answers shared() then");
        SiftedGraphs x = held("a&d|b&e|c&f");
        due("better", x.swap(2), 10);
        due("better still", x.swap(1), 8);
        due("best", x.swap(3), 6);
        due("worse again", x.swap(3), 8);
        x.set(1, 13);
        due("with another register", x.swap(3), 7);
        due("shared", x.shared(), 7);
        due("size", x.size(0), 6);
        due("values", told(x, 0), told(held("a&d|b&e|c&f"), 0));
    }

    private static void siftWithoutNodes() {
        about("21: of several the one with the least number, there being no nodes");
        for (int v = 0; v < 6; v++) {
            SiftedGraphs x = new SiftedGraphs();
            x.set(1, 0);
            x.set(2, 1);
            due("sift of " + v, x.sift(v), 0);
            due("order", order(x), v + "012345".replace(String.valueOf(v), ""));
        }
    }

    private static void siftOfSeveralTheLeast() {
        about("21: of several the one with the least number");
        for (int v = 0; v < 6; v++) {
            due("all alike, " + v, held("a^b^c^d^e^f").sift(v), 0);
        }
        SiftedGraphs others = held("a&d|b&e");
        due("not depended on", others.sift(2), 0);
        due("its order", order(others), "201345");
        SiftedGraphs pairs = held("a&b|c&d|e&f");
        due("levels 0 and 1 alike, from 1", pairs.sift(1), 0);
        due("levels 0 and 1 alike, from 1 again", pairs.sift(0), 0);
        due("order", order(pairs), "012345");
        due("levels 4 and 5 alike, from 5", pairs.sift(5), 4);
        due("levels 4 and 5 alike, from 5 again", pairs.sift(4), 4);
        due("order", order(pairs), "012345");
        due("levels 2 and 3 alike, from 3", pairs.sift(3), 2);
        due("order", order(pairs), "013245");
    }

    // texts[v][level]: moving v alone, that level has fewer nodes than each other one.
    private static void siftToEachLevel() {
        about("21: Variable v goes to the level for which shared() is least");
        String[][] texts = {
            {"a&b&c^a&d&f^e", "b&e^c&f|a&b|d", "a^b&c|f&e|d", "f&c&a^e|d&b", "e&c&b|f|d^a", "b&e|a^c&d&f"},
            {"d&b^f&e|a&b&c", "d&a|f&e&c|a&b", "d&f|e&b^c&a", "b^d&a&c|f&e", "f^b&d|e&a&c", "f&c|b^e&d&a"},
            {"e&f^b&a&d|c&d", "d&a&f^e&b|a&c", "e|f&d|b&a^c", "f|e|a&b&d^c", "b^c^e&a&d|f", "a&e&b|c^d&f"},
            {"b&f&d|e|d&a^c", "f^c&b|a&d|a&e", "d^a&b|e&c^f", "b&f&d^e|c&a", "f^b&d|e&a&c", "e&b&c^d|a&f"},
            {"e&b&d^f|c&a&e", "f^c&b|a&d|a&e", "a&b^d&e|c&f", "e^c&b&a|d^f", "d^a&b|e&c^f", "b&c|f&a|d^e"},
            {"a&f^b&d|c&f&e", "d&e&b|c&a|f&a", "d&e&c|f^a&b", "c&a^f|b&e^d", "e^f&c|b&a&d", "f^b&d|e&a&c"}
        };
        for (int v = 0; v < 6; v++) {
            String others = "012345".replace(String.valueOf(v), "");
            for (int level = 0; level < 6; level++) {
                SiftedGraphs x = held(texts[v][level]);
                due(v + " of " + texts[v][level], x.sift(v), level);
                due("order", order(x), others.substring(0, level) + v + others.substring(level));
                due("no level is better", bestBySwaps(x, v), level);
            }
        }
    }

    private static void siftThatStays() {
        about("21: the others keeping their order among one another");
        SiftedGraphs x = held("a&b|c&d|e&f");
        due("where it stands", x.sift(2), 2);
        due("order", order(x), "012345");
        SiftedGraphs mixed = held("a&f|b&e|c&d");
        for (int v = 0; v < 6; v++) {
            String before = order(mixed).replace(String.valueOf(v), "");
            int level = mixed.sift(v);
            due("level of " + v, mixed.variable(level), v);
            due("the others", order(mixed).replace(String.valueOf(v), ""), before);
        }
    }

    private static void siftCountsAllRegisters() {
        about("21: for which shared() is least, not the size of one");
        SiftedGraphs x = held("e&f^b&a&d|c&d");
        due("the first register alone", x.sift(2), 0);
        enter(x, 7, "a&e&b|c^d&f");
        due("both together", x.sift(2), 4);
        x.release(0);
        due("the last register alone", x.sift(2), 5);
    }

    private static void siftChangesNoFunction() {
        about("21: the functions stay what they are");
        SiftedGraphs x = held(MIXED);
        enter(x, 1, "a&d|b&e|c&f");
        String first = told(x, 0);
        String second = told(x, 1);
        for (int v = 0; v < 6; v++) {
            x.sift(v);
        }
        due("register 0", told(x, 0), first);
        due("register 1", told(x, 1), second);
        due("an empty one", told(x, 2), "empty");
        for (int bad : beyond(6)) {
            refused("v " + bad, () -> x.sift(bad));
        }
    }

    /** The least level with the fewest nodes, each tried by swaps; it leaves v on the last. */
    private static int bestBySwaps(SiftedGraphs x, int v) {
        for (int l = order(x).indexOf('0' + v); l > 0; l--) {
            x.swap(l - 1);
        }
        int best = 0;
        int fewest = x.shared();
        for (int level = 1; level < 6; level++) {
            int nodes = x.swap(level - 1);
            if (nodes < fewest) {
                fewest = nodes;
                best = level;
            }
        }
        return best;
    }

    private static int with(int assignment, int v, boolean value) {
        return value ? assignment | 32 >> v : assignment & ~(32 >> v);
    }

    private static String given(String values, int v, boolean value) {
        StringBuilder given = new StringBuilder();
        for (int i = 0; i < 64; i++) {
            given.append(values.charAt(with(i, v, value)));
        }
        return given.toString();
    }

    private static String turned(String values, int v) {
        StringBuilder turned = new StringBuilder();
        for (int i = 0; i < 64; i++) {
            turned.append(values.charAt(with(i, v, !bit(i, v))));
        }
        return turned.toString();
    }

    private static String over(String values, int set, boolean all) {
        int outside = 0;
        for (int v = 0; v < 6; v++) {
            outside |= (set >> v & 1) == 0 ? 32 >> v : 0;
        }
        StringBuilder over = new StringBuilder();
        for (int i = 0; i < 64; i++) {
            boolean found = false;
            for (int j = 0; j < 64; j++) {
                found |= (i & outside) == (j & outside) && (values.charAt(j) == '1') != all;
            }
            over.append(found != all ? '1' : '0');
        }
        return over.toString();
    }
}
