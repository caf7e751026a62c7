import java.util.NoSuchElementException;

/**
 * Functions of six yes-or-no variables, held in registers, and the sizes of their shared decision
 * graphs under an order of the variables that can be changed.
 *
 * <p>A function is held as the table of its 64 values, one bit of a long for each assignment. A
 * table is the same whatever the order is, so moving variables touches no register; the nodes of
 * the graphs are found anew from the tables whenever they are counted.
 */
public final class SiftedGraphs {
    private static final int VARIABLES = 6;
    private static final int ASSIGNMENTS = 64;
    private static final int REGISTERS = 8;
    private static final int CODES = 2 + 2 * VARIABLES;
    private static final int OPERATIONS = 16;
    private static final int SETS = 1 << VARIABLES;
    private static final int LONGEST_TEXT = 40;
    private static final int MOST_TYPED_AT_ONCE = 8;

    private final Registers registers;
    private final int[] order;
    private final char[] text;
    private int typed;
    private final FormulaReader reader;
    private final NodeCounter nodes;

    public SiftedGraphs() {
        registers = new Registers();
        order = new int[VARIABLES];
        for (int level = 0; level < VARIABLES; level++) {
            order[level] = level;
        }
        text = new char[LONGEST_TEXT];
        typed = 0;
        reader = new FormulaReader();
        nodes = new NodeCounter();
    }

    public void set(int r, int code) throws IllegalArgumentException {
        checkBelow(r, REGISTERS);
        checkBelow(code, CODES);
        // The codes 0 and 1 are to the constants what an even and an odd code are to a variable.
        long even = code < 2 ? Tables.NEVER : Tables.ofVariable((code - 2) / 2);
        registers.put(r, code % 2 == 0 ? even : ~even);
    }

    public void apply(int r, int a, int b, int operation)
            throws IllegalArgumentException, NoSuchElementException {
        checkBelow(r, REGISTERS);
        checkBelow(a, REGISTERS);
        checkBelow(b, REGISTERS);
        checkBelow(operation, OPERATIONS);
        registers.put(r, Tables.connected(look(a), look(b), operation));
    }

    public void choose(int r, int a, int b, int c)
            throws IllegalArgumentException, NoSuchElementException {
        checkBelow(r, REGISTERS);
        checkBelow(a, REGISTERS);
        checkBelow(b, REGISTERS);
        checkBelow(c, REGISTERS);
        registers.put(r, Tables.chosen(look(a), look(b), look(c)));
    }

    public void restrict(int r, int a, int v, boolean value)
            throws IllegalArgumentException, NoSuchElementException {
        checkBelow(r, REGISTERS);
        checkBelow(a, REGISTERS);
        checkBelow(v, VARIABLES);
        long table = look(a);
        registers.put(r, value ? Tables.withOne(table, v) : Tables.withZero(table, v));
    }

    public void compose(int r, int a, int v, int b)
            throws IllegalArgumentException, NoSuchElementException {
        checkBelow(r, REGISTERS);
        checkBelow(a, REGISTERS);
        checkBelow(v, VARIABLES);
        checkBelow(b, REGISTERS);
        long outer = look(a);
        long inner = look(b);
        registers.put(
                r, Tables.chosen(inner, Tables.withOne(outer, v), Tables.withZero(outer, v)));
    }

    public void quantify(int r, int a, int set, boolean all)
            throws IllegalArgumentException, NoSuchElementException {
        checkBelow(r, REGISTERS);
        checkBelow(a, REGISTERS);
        checkBelow(set, SETS);
        long table = look(a);
        for (int v = 0; v < VARIABLES; v++) {
            if ((set >> v & 1) == 1) {
                long zero = Tables.withZero(table, v);
                long one = Tables.withOne(table, v);
                table = all ? zero & one : zero | one;
            }
        }
        registers.put(r, table);
    }

    public int type(long characters, int n) throws IllegalArgumentException {
        // n is looked at before it is added, so that the sum cannot wrap around.
        if (n < 1 || n > MOST_TYPED_AT_ONCE || typed + n > LONGEST_TEXT) {
            throw new IllegalArgumentException();
        }
        for (int i = n - 1; i >= 0; i--) {
            text[typed] = (char) (characters >>> 8 * i & 255);
            typed++;
        }
        return typed;
    }

    public int read(int r) throws IllegalArgumentException {
        checkBelow(r, REGISTERS);
        int failure = reader.failurePlace(text, typed, registers);
        typed = 0;
        if (failure < 0) {
            registers.put(r, reader.meaning());
        }
        return failure;
    }

    public boolean release(int r) throws IllegalArgumentException {
        checkBelow(r, REGISTERS);
        boolean held = registers.isHeld(r);
        registers.clear(r);
        return held;
    }

    public boolean equal(int a, int b) throws IllegalArgumentException, NoSuchElementException {
        checkBelow(a, REGISTERS);
        checkBelow(b, REGISTERS);
        return look(a) == look(b);
    }

    public boolean value(int a, int assignment)
            throws IllegalArgumentException, NoSuchElementException {
        checkBelow(a, REGISTERS);
        checkBelow(assignment, ASSIGNMENTS);
        return Tables.at(look(a), assignment);
    }

    public int count(int a) throws IllegalArgumentException, NoSuchElementException {
        checkBelow(a, REGISTERS);
        return Long.bitCount(look(a));
    }

    public int least(int a) throws IllegalArgumentException, NoSuchElementException {
        checkBelow(a, REGISTERS);
        long table = look(a);
        for (int assignment = 0; assignment < ASSIGNMENTS; assignment++) {
            if (Tables.at(table, assignment)) {
                return assignment;
            }
        }
        return -1;
    }

    public int support(int a) throws IllegalArgumentException, NoSuchElementException {
        checkBelow(a, REGISTERS);
        long table = look(a);
        int set = 0;
        for (int v = 0; v < VARIABLES; v++) {
            if (Tables.dependsOn(table, v)) {
                set |= 1 << v;
            }
        }
        return set;
    }

    public int size(int a) throws IllegalArgumentException, NoSuchElementException {
        checkBelow(a, REGISTERS);
        nodes.begin();
        nodes.add(look(a));
        return nodes.total(order);
    }

    public int shared() {
        return nodesOfAll();
    }

    public int width(int level) throws IllegalArgumentException {
        checkBelow(level, VARIABLES);
        nodesOfAll();
        return nodes.onLevel(level);
    }

    public int variable(int level) throws IllegalArgumentException {
        checkBelow(level, VARIABLES);
        return order[level];
    }

    public int swap(int l) throws IllegalArgumentException {
        checkBelow(l, VARIABLES - 1);
        exchange(l);
        return nodesOfAll();
    }

    public int sift(int v) throws IllegalArgumentException {
        checkBelow(v, VARIABLES);
        raise(levelOf(v), 0);
        int best = 0;
        int fewest = nodesOfAll();
        for (int level = 1; level < VARIABLES; level++) {
            exchange(level - 1);
            int now = nodesOfAll();
            if (now < fewest) {
                best = level;
                fewest = now;
            }
        }
        raise(VARIABLES - 1, best);
        return best;
    }

    private static void checkBelow(int number, int bound) {
        if (number < 0 || number >= bound) {
            throw new IllegalArgumentException();
        }
    }

    private long look(int r) {
        if (!registers.isHeld(r)) {
            throw new NoSuchElementException();
        }
        return registers.table(r);
    }

    private int nodesOfAll() {
        nodes.begin();
        for (int r = 0; r < REGISTERS; r++) {
            if (registers.isHeld(r)) {
                nodes.add(registers.table(r));
            }
        }
        return nodes.total(order);
    }

    private int levelOf(int v) {
        int found = 0;
        for (int level = 0; level < VARIABLES; level++) {
            if (order[level] == v) {
                found = level;
            }
        }
        return found;
    }

    /** Moves a variable up by single exchanges, which keep the others' order as it is. */
    private void raise(int from, int to) {
        for (int level = from; level > to; level--) {
            exchange(level - 1);
        }
    }

    private void exchange(int upper) {
        int moved = order[upper];
        order[upper] = order[upper + 1];
        order[upper + 1] = moved;
    }

    /** What can be done with tables: bit i of a table is the function's value for assignment i. */
    private static final class Tables {
        private static final long NEVER = 0L;
        private static final long ALWAYS = -1L;
        private static final long[] OF_VARIABLES = {
            0xFFFFFFFF00000000L,
            0xFFFF0000FFFF0000L,
            0xFF00FF00FF00FF00L,
            0xF0F0F0F0F0F0F0F0L,
            0xCCCCCCCCCCCCCCCCL,
            0xAAAAAAAAAAAAAAAAL
        };

        static long ofVariable(int v) {
            return OF_VARIABLES[v];
        }

        static boolean at(long table, int assignment) {
            return (table >>> assignment & 1L) == 1L;
        }

        static long connected(long x, long y, int operation) {
            long table = NEVER;
            if ((operation & 1) != 0) {
                table |= ~x & ~y;
            }
            if ((operation & 2) != 0) {
                table |= ~x & y;
            }
            if ((operation & 4) != 0) {
                table |= x & ~y;
            }
            if ((operation & 8) != 0) {
                table |= x & y;
            }
            return table;
        }

        static long chosen(long test, long whereOne, long whereZero) {
            return test & whereOne | ~test & whereZero;
        }

        static long withOne(long table, int v) {
            long half = table & OF_VARIABLES[v];
            return half | half >>> weight(v);
        }

        static long withZero(long table, int v) {
            long half = table & ~OF_VARIABLES[v];
            return half | half << weight(v);
        }

        static boolean dependsOn(long table, int v) {
            return withOne(table, v) != withZero(table, v);
        }

        /** By how much an assignment grows when the variable in it turns from 0 to 1. */
        private static int weight(int v) {
            return 1 << VARIABLES - 1 - v;
        }
    }

    private static final class Registers {
        private final long[] tables;
        private final boolean[] held;

        Registers() {
            tables = new long[REGISTERS];
            held = new boolean[REGISTERS];
        }

        boolean isHeld(int r) {
            return held[r];
        }

        long table(int r) {
            return tables[r];
        }

        void put(int r, long table) {
            tables[r] = table;
            held[r] = true;
        }

        void clear(int r) {
            held[r] = false;
        }
    }

    /**
     * Counts nodes from the highest level down. For each level it has the different functions that
     * the registers become when all variables above are given values; what both values of the
     * level's own variable make of them is what the next level starts from.
     */
    private static final class NodeCounter {
        // Eight functions become at most 64 on level 3; below it, functions of the two variables
        // that are left are at most 16, so no level has more than 64.
        private static final int MOST_ON_A_LEVEL = 64;

        private long[] above;
        private int aboveCount;
        private long[] below;
        private int belowCount;
        private final int[] widths;

        NodeCounter() {
            above = new long[MOST_ON_A_LEVEL];
            below = new long[MOST_ON_A_LEVEL];
            widths = new int[VARIABLES];
        }

        void begin() {
            belowCount = 0;
        }

        void add(long table) {
            for (int i = 0; i < belowCount; i++) {
                if (below[i] == table) {
                    return;
                }
            }
            if (belowCount < MOST_ON_A_LEVEL) {
                below[belowCount] = table;
                belowCount++;
            }
        }

        int total(int[] order) {
            int total = 0;
            for (int level = 0; level < VARIABLES; level++) {
                goDown();
                widths[level] = branch(order[level]);
                total += widths[level];
            }
            return total;
        }

        int onLevel(int level) {
            return widths[level];
        }

        private void goDown() {
            long[] free = above;
            above = below;
            aboveCount = belowCount;
            below = free;
            belowCount = 0;
        }

        private int branch(int v) {
            int found = 0;
            for (int i = 0; i < aboveCount; i++) {
                long zero = Tables.withZero(above[i], v);
                long one = Tables.withOne(above[i], v);
                add(zero);
                if (zero != one) {
                    found++;
                    add(one);
                }
            }
            return found;
        }
    }

    /**
     * Reads a formula in one pass. For each parenthesis that is open it keeps what has been joined
     * so far by |, by ^ and by &, so that a failure is seen at the very character that causes it.
     */
    private static final class FormulaReader {
        private static final int MOST_OPEN = 5;

        private final long[] sums;
        private final long[] parities;
        private final long[] products;
        private final long[] flips;
        private int open;
        private boolean operandDue;

        FormulaReader() {
            sums = new long[MOST_OPEN + 1];
            parities = new long[MOST_OPEN + 1];
            products = new long[MOST_OPEN + 1];
            flips = new long[MOST_OPEN + 1];
        }

        /** The place at which the text fails, or -1 when it is a formula. */
        int failurePlace(char[] text, int length, Registers registers) {
            open = 0;
            beginFormula();
            for (int place = 0; place < length; place++) {
                char c = text[place];
                boolean taken = operandDue ? takeInOperand(c, registers) : takeBehindOperand(c);
                if (!taken) {
                    return place;
                }
            }
            return operandDue || open > 0 ? length : -1;
        }

        /** The table of the formula that was read last, if it did not fail. */
        long meaning() {
            return sums[open] | parities[open] ^ products[open];
        }

        private void beginFormula() {
            sums[open] = Tables.NEVER;
            parities[open] = Tables.NEVER;
            products[open] = Tables.ALWAYS;
            beginFactor();
        }

        private void beginFactor() {
            flips[open] = Tables.NEVER;
            operandDue = true;
        }

        private boolean takeInOperand(char c, Registers registers) {
            if (c == '!') {
                flips[open] = ~flips[open];
                return true;
            }
            if (c == '(') {
                return openParenthesis();
            }
            if (c == '0' || c == '1') {
                endFactor(c == '1' ? Tables.ALWAYS : Tables.NEVER);
                return true;
            }
            if (c >= 'a' && c < 'a' + VARIABLES) {
                endFactor(Tables.ofVariable(c - 'a'));
                return true;
            }
            if (c >= 'A' && c < 'A' + REGISTERS && registers.isHeld(c - 'A')) {
                endFactor(registers.table(c - 'A'));
                return true;
            }
            return false;
        }

        private boolean takeBehindOperand(char c) {
            switch (c) {
                case '&':
                    beginFactor();
                    return true;
                case '^':
                    parities[open] ^= products[open];
                    products[open] = Tables.ALWAYS;
                    beginFactor();
                    return true;
                case '|':
                    sums[open] = meaning();
                    parities[open] = Tables.NEVER;
                    products[open] = Tables.ALWAYS;
                    beginFactor();
                    return true;
                case ')':
                    return closeParenthesis();
                default:
                    return false;
            }
        }

        private void endFactor(long table) {
            products[open] &= table ^ flips[open];
            operandDue = false;
        }

        private boolean openParenthesis() {
            if (open >= MOST_OPEN) {
                return false;
            }
            open++;
            beginFormula();
            return true;
        }

        private boolean closeParenthesis() {
            if (open <= 0) {
                return false;
            }
            long inner = meaning();
            open--;
            endFactor(inner);
            return true;
        }
    }
}
