/**
 * A pool of hidden notes: deposits and spendings put commitments into a tree of hashes, and a
 * spending must come with a vector that meets the conditions, a recent root and a new mark.
 */
public final class NotePool {
    public static final int NONE = -1;
    public static final int UNKNOWN = -2;
    public static final int WRONG = -3;
    public static final int LARGE = -4;
    public static final int STALE = -5;
    public static final int SPENT = -6;
    public static final int FULL = -7;

    private static final int MODULUS = 65537;
    private static final int[] SALTS = {11, 222, 3333, 44444};
    private static final int ACCOUNTS = 4;
    private static final int FIRST_SECRET = 100;
    private static final int PLACES = 16;
    private static final int LEVELS_UNDER_ROOT = 4;
    private static final int RECENT = 4;
    private static final int LARGEST_VALUE = 255;

    private final int[] keys = new int[ACCOUNTS];
    private final int[] owners = new int[PLACES];
    private final int[] values = new int[PLACES];
    private final int[] nonces = new int[PLACES];
    private final HashTree tree = new HashTree();
    private final MarkRow marks = new MarkRow();
    private final SpendVector vector = new SpendVector();
    private int inPool = 0;

    public NotePool() {
        for (int account = 0; account < ACCOUNTS; account++) {
            keys[account] = hashOf(secretOf(account), 0);
        }
    }

    public int hash(int a, int b) {
        if (!isNumber(a) || !isNumber(b)) {
            return NONE;
        }
        return hashOf(a, b);
    }

    public int deposit(int account, int value, int nonce) {
        if (!isAccount(account)) {
            return UNKNOWN;
        }
        if (!isValue(value) || !isNumber(nonce)) {
            return WRONG;
        }
        if (tree.isFull()) {
            return FULL;
        }
        inPool += value;
        return makeNote(keys[account], value, nonce);
    }

    public int load(int place, int payee, int amount, int withdrawn, int newNonce) {
        if (!hasNote(place) || !isAccount(payee)) {
            return UNKNOWN;
        }
        if (!isAccount(owners[place])) {
            return NONE;
        }
        if (!isValue(amount) || !isValue(withdrawn) || !isNumber(newNonce)) {
            return WRONG;
        }
        vector.takeNote(secretOf(owners[place]), values[place], nonces[place]);
        vector.takePayment(keys[payee], amount, withdrawn, newNonce);
        vector.takePath(place, tree);
        vector.complete();
        return vector.firstFault() == NONE ? 1 : 0;
    }

    public boolean set(int cell, int number) {
        if (!SpendVector.isCell(cell) || cell == SpendVector.ONE || !isNumber(number)) {
            return false;
        }
        vector.cells[cell] = number;
        return true;
    }

    public int get(int cell) {
        return SpendVector.isCell(cell) ? vector.cells[cell] : NONE;
    }

    public int fault() {
        return vector.firstFault();
    }

    public int submit() {
        int[] cells = vector.cells;
        if (vector.firstFault() != NONE) {
            return WRONG;
        }
        if (cells[SpendVector.WITHDRAWN] > LARGEST_VALUE) {
            return LARGE;
        }
        if (!tree.isRecent(cells[SpendVector.ROOT])) {
            return STALE;
        }
        if (marks.has(cells[SpendVector.MARK])) {
            return SPENT;
        }
        if (tree.isFull()) {
            return FULL;
        }
        marks.add(cells[SpendVector.MARK]);
        inPool -= cells[SpendVector.WITHDRAWN];
        return makeNote(cells[SpendVector.PAYEE_KEY], cells[SpendVector.AMOUNT],
                cells[SpendVector.NEW_NONCE]);
    }

    public int notes() {
        return tree.count;
    }

    public int commitment(int place) {
        return hasNote(place) ? tree.nodeAt(0, place) : UNKNOWN;
    }

    public int owner(int place) {
        return hasNote(place) ? owners[place] : UNKNOWN;
    }

    public int value(int place) {
        return hasNote(place) ? values[place] : UNKNOWN;
    }

    public boolean unspent(int place) {
        return hasNote(place) && isAccount(owners[place]) && !marks.has(markOf(place));
    }

    public int balance(int account) {
        if (!isAccount(account)) {
            return UNKNOWN;
        }
        int total = 0;
        for (int place = 0; place < PLACES; place++) {
            if (hasNote(place) && owners[place] == account && !marks.has(markOf(place))) {
                total += values[place];
            }
        }
        return total;
    }

    public int root(int k) {
        return tree.recentRoot(k);
    }

    public int node(int level, int number) {
        return tree.nodeAt(level, number);
    }

    public int used() {
        return marks.count;
    }

    public int mark(int k) {
        return marks.at(k);
    }

    public int pool() {
        return inPool;
    }

    /** The callers have seen to it that the tree is not full. */
    private int makeNote(int key, int value, int nonce) {
        int place = tree.append(hashOf(hashOf(key, value), nonce));
        if (hasNote(place)) {
            owners[place] = ownerOfKey(key);
            values[place] = value;
            nonces[place] = nonce;
        }
        return place;
    }

    private int ownerOfKey(int key) {
        for (int account = 0; account < ACCOUNTS; account++) {
            if (keys[account] == key) {
                return account;
            }
        }
        return NONE;
    }

    /** Only for a note that has an owner: the mark of any other is not defined. */
    private int markOf(int place) {
        return hashOf(secretOf(owners[place]), tree.nodeAt(0, place));
    }

    private boolean hasNote(int place) {
        return place >= 0 && place < tree.count;
    }

    private static boolean isAccount(int account) {
        return account >= 0 && account < ACCOUNTS;
    }

    private static boolean isValue(int value) {
        return value >= 0 && value <= LARGEST_VALUE;
    }

    private static boolean isNumber(int number) {
        return number >= 0 && number < MODULUS;
    }

    private static int secretOf(int account) {
        return FIRST_SECRET + account;
    }

    private static int sum(int a, int b) {
        return (a + b) % MODULUS;
    }

    private static int difference(int a, int b) {
        return (a - b + MODULUS) % MODULUS;
    }

    /** In long, because 65536 * 65536 does not fit an int. */
    private static int product(int a, int b) {
        return (int) ((long) a * b % MODULUS);
    }

    private static int hashOf(int a, int b) {
        int x = a;
        for (int i = 0; i < SALTS.length; i++) {
            int base = sum(sum(x, b), SALTS[i]);
            x = product(product(base, base), base);
        }
        return sum(sum(x, a), b);
    }

    /** The commitments, the nodes above them, and every root there has been. */
    private static final class HashTree {
        // The root is node 1 and the nodes 2j and 2j + 1 are under node j, so that a level of
        // so many nodes begins at just that index.
        private final int[] nodes = new int[2 * PLACES];
        private final int[] rootWithNotes = new int[PLACES + 1];
        private int count = 0;

        HashTree() {
            for (int index = PLACES - 1; index >= 1; index--) {
                hashUp(index);
            }
            rootWithNotes[0] = nodes[1];
        }

        boolean isFull() {
            return count >= PLACES;
        }

        int append(int leaf) {
            if (isFull()) {
                return FULL;
            }
            int place = count;
            nodes[PLACES + place] = leaf;
            for (int level = 1; level <= LEVELS_UNDER_ROOT; level++) {
                hashUp((PLACES + place) >> level);
            }
            count++;
            rootWithNotes[count] = nodes[1];
            return place;
        }

        int nodeAt(int level, int number) {
            if (level < 0 || level > LEVELS_UNDER_ROOT) {
                return NONE;
            }
            int width = PLACES >> level;
            return number >= 0 && number < width ? nodes[width + number] : NONE;
        }

        int recentRoot(int k) {
            return k >= 0 && k < RECENT && k <= count ? rootWithNotes[count - k] : NONE;
        }

        boolean isRecent(int root) {
            for (int k = 0; k < RECENT; k++) {
                if (recentRoot(k) == root) {
                    return true;
                }
            }
            return false;
        }

        private void hashUp(int index) {
            nodes[index] = hashOf(nodes[2 * index], nodes[2 * index + 1]);
        }
    }

    /** The used marks, kept in rising order because they are asked for by rank. */
    private static final class MarkRow {
        // Each use of a mark makes a note, so there are never more marks than places.
        private final int[] sorted = new int[PLACES];
        private int count = 0;

        boolean has(int mark) {
            for (int i = 0; i < count; i++) {
                if (sorted[i] == mark) {
                    return true;
                }
            }
            return false;
        }

        void add(int mark) {
            if (count >= PLACES) {
                return;
            }
            int gap = count;
            while (gap > 0 && sorted[gap - 1] > mark) {
                sorted[gap] = sorted[gap - 1];
                gap--;
            }
            sorted[gap] = mark;
            count++;
        }

        int at(int k) {
            return k >= 0 && k < count ? sorted[k] : NONE;
        }
    }

    /**
     * The cells and their conditions. Every condition says which number is due in one cell, so
     * the same formulas serve to check a vector and to complete one.
     */
    private static final class SpendVector {
        private static final int SIZE = 125;
        private static final int ONE = 0;
        private static final int ROOT = 1;
        private static final int MARK = 2;
        private static final int NEW_COMMITMENT = 3;
        private static final int WITHDRAWN = 4;
        private static final int SECRET = 5;
        private static final int VALUE = 6;
        private static final int NONCE = 7;
        private static final int PAYEE_KEY = 8;
        private static final int AMOUNT = 9;
        private static final int NEW_NONCE = 10;
        private static final int SIBLINGS = 11;
        private static final int TURNS = 15;
        private static final int LEFTS = 19;
        private static final int RIGHTS = 23;
        private static final int BITS = 27;
        private static final int BLOCKS = 35;

        private static final int BIT_COUNT = 8;
        private static final int BLOCK_SIZE = 9;
        private static final int LEVEL_SIZE = 2 + BLOCK_SIZE;
        private static final int COMMITMENT_BLOCK = 2;
        private static final int FIRST_LEVEL_BLOCK = 3;
        private static final int ROOT_BLOCK = 6;
        private static final int MARK_BLOCK = 7;
        private static final int NEW_COMMITMENT_BLOCK = 9;

        private static final int BIT_CONDITIONS = 4;
        private static final int AMOUNT_CONDITION = 12;
        private static final int VALUE_CONDITION = 13;
        private static final int NOTE_CONDITIONS = 14;
        private static final int LEVEL_CONDITIONS = 41;
        private static final int PAYMENT_CONDITIONS = 85;
        private static final int PUBLIC_CONDITIONS = 112;
        private static final int CONDITIONS = 115;

        // The cells that are the inputs of the blocks 0 .. 9; 43, 52, 61 and 115 are results.
        private static final int[] FIRST_INPUTS = {5, 43, 52, 19, 20, 21, 22, 5, 8, 115};
        // Block 0 has the number 0 for its second input, which no cell holds.
        private static final int[] SECOND_INPUTS = {NONE, 6, 7, 23, 24, 25, 26, 61, 9, 10};

        private final int[] cells = new int[SIZE];

        SpendVector() {
            cells[ONE] = 1;
        }

        static boolean isCell(int cell) {
            return cell >= 0 && cell < SIZE;
        }

        void takeNote(int secret, int value, int nonce) {
            cells[SECRET] = secret;
            cells[VALUE] = value;
            cells[NONCE] = nonce;
        }

        void takePayment(int payeeKey, int amount, int withdrawn, int newNonce) {
            cells[PAYEE_KEY] = payeeKey;
            cells[AMOUNT] = amount;
            cells[WITHDRAWN] = withdrawn;
            cells[NEW_NONCE] = newNonce;
            for (int k = 0; k < BIT_COUNT; k++) {
                cells[BITS + k] = (amount >> k) & 1;
            }
        }

        void takePath(int place, HashTree tree) {
            for (int level = 0; level < LEVELS_UNDER_ROOT; level++) {
                cells[TURNS + level] = (place >> level) & 1;
                cells[SIBLINGS + level] = tree.nodeAt(level, (place >> level) ^ 1);
            }
        }

        /** In rising order, because a condition builds on cells that those before it settle. */
        void complete() {
            for (int condition = NOTE_CONDITIONS; condition < CONDITIONS; condition++) {
                int cell = cellOf(condition);
                cells[cell] = dueIn(cell);
            }
        }

        int firstFault() {
            for (int condition = 0; condition < CONDITIONS; condition++) {
                int cell = cellOf(condition);
                if (cells[cell] != dueIn(cell)) {
                    return condition;
                }
            }
            return NONE;
        }

        private static int cellOf(int condition) {
            if (condition < BIT_CONDITIONS) {
                return TURNS + condition;
            }
            if (condition < AMOUNT_CONDITION) {
                return BITS + condition - BIT_CONDITIONS;
            }
            if (condition == AMOUNT_CONDITION) {
                return AMOUNT;
            }
            if (condition == VALUE_CONDITION) {
                return VALUE;
            }
            if (condition < LEVEL_CONDITIONS) {
                return BLOCKS + condition - NOTE_CONDITIONS;
            }
            if (condition < PAYMENT_CONDITIONS) {
                return cellOnLevel((condition - LEVEL_CONDITIONS) / LEVEL_SIZE,
                        (condition - LEVEL_CONDITIONS) % LEVEL_SIZE);
            }
            if (condition < PUBLIC_CONDITIONS) {
                return BLOCKS + MARK_BLOCK * BLOCK_SIZE + condition - PAYMENT_CONDITIONS;
            }
            return ROOT + condition - PUBLIC_CONDITIONS;
        }

        private static int cellOnLevel(int level, int step) {
            if (step == 0) {
                return LEFTS + level;
            }
            if (step == 1) {
                return RIGHTS + level;
            }
            return BLOCKS + (FIRST_LEVEL_BLOCK + level) * BLOCK_SIZE + step - 2;
        }

        /** Only for a cell that a condition is about. */
        private int dueIn(int cell) {
            if (cell >= BLOCKS) {
                return dueInBlock((cell - BLOCKS) / BLOCK_SIZE, (cell - BLOCKS) % BLOCK_SIZE);
            }
            if (cell >= BITS) {
                return product(cells[cell], cells[cell]);
            }
            if (cell >= RIGHTS) {
                return dueRight(cell - RIGHTS);
            }
            if (cell >= LEFTS) {
                return dueLeft(cell - LEFTS);
            }
            if (cell >= TURNS) {
                return product(cells[cell], cells[cell]);
            }
            switch (cell) {
                case AMOUNT:
                    return sumOfBits();
                case VALUE:
                    return sum(cells[AMOUNT], cells[WITHDRAWN]);
                case ROOT:
                    return resultOf(ROOT_BLOCK);
                case MARK:
                    return resultOf(MARK_BLOCK);
                case NEW_COMMITMENT:
                    return resultOf(NEW_COMMITMENT_BLOCK);
                default:
                    return cells[cell];
            }
        }

        private int sumOfBits() {
            int total = 0;
            for (int k = 0; k < BIT_COUNT; k++) {
                total = sum(total, product(1 << k, cells[BITS + k]));
            }
            return total;
        }

        private int dueLeft(int level) {
            int below = resultOf(COMMITMENT_BLOCK + level);
            int apart = difference(cells[SIBLINGS + level], below);
            return sum(below, product(cells[TURNS + level], apart));
        }

        private int dueRight(int level) {
            int both = sum(resultOf(COMMITMENT_BLOCK + level), cells[SIBLINGS + level]);
            return difference(both, cells[LEFTS + level]);
        }

        private int dueInBlock(int block, int step) {
            int start = BLOCKS + block * BLOCK_SIZE;
            int a = cells[FIRST_INPUTS[block]];
            int b = block == 0 ? 0 : cells[SECOND_INPUTS[block]];
            if (step == BLOCK_SIZE - 1) {
                return sum(sum(cells[start + step - 1], a), b);
            }
            int turn = step / 2;
            int before = turn == 0 ? a : cells[start + 2 * turn - 1];
            int base = sum(sum(before, b), SALTS[turn]);
            return product(step % 2 == 0 ? base : cells[start + step - 1], base);
        }

        private int resultOf(int block) {
            return cells[BLOCKS + block * BLOCK_SIZE + BLOCK_SIZE - 1];
        }
    }
}
