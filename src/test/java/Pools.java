/** Pools in the states that the tests begin with, and all that a pool shows of its state. */
final class Pools {
    /** Numbers far outside of every range that the document names. */
    static final int[] FAR = {Integer.MIN_VALUE, Integer.MIN_VALUE + 1, -65537, -65536, -256, -16, -2,
        1 << 17, 1 << 20, Integer.MAX_VALUE - 1, Integer.MAX_VALUE};
    static final int EMPTY_ROOT = 23901;
    static final int[] KEYS = {24908, 991, 34235, 44484};
    static final int NO_ONES_KEY = 12345;

    /** The note at place k is of account k % 4, of the value 10 + k, with the nonce 1000 + k. */
    static NotePool withDeposits(int count) {
        NotePool x = new NotePool();
        deposit(x, count);
        return x;
    }

    static void deposit(NotePool x, int count) {
        for (int i = 0; i < count; i++) {
            int place = x.notes();
            x.deposit(place % 4, 10 + place, 1000 + place);
        }
    }

    static void fill(NotePool x) {
        deposit(x, 16 - x.notes());
    }

    static NotePool full() {
        return withDeposits(16);
    }

    /** Place 0: account 0's note of 40, spent; place 1: a note of 33, nonce 5, with no one's key. */
    static NotePool withOwnerless() {
        NotePool x = new NotePool();
        x.deposit(0, 40, 8);
        payToKey(x, NO_ONES_KEY);
        x.submit();
        return x;
    }

    /** Fills the vector for the note at place 0, of 40, so that 33 go to this key, in 21 calls. */
    static void payToKey(NotePool x, int key) {
        x.load(0, 1, 33, 7, 5);
        int[] cells = new int[125];
        Forge.pay(cells, key, 33, 7, 5);
        Reference.settle(cells);
        x.set(8, key);
        x.set(3, cells[3]);
        for (int cell = 107; cell < 125; cell++) {
            x.set(cell, cells[cell]);
        }
    }

    /** Everything the face shows without changing anything, in 256 calls. */
    static String stateOf(NotePool x) {
        StringBuilder text = new StringBuilder("cells");
        for (int cell = 0; cell < 125; cell++) {
            text.append(' ').append(x.get(cell));
        }
        text.append(" | ").append(x.notes()).append(' ').append(x.used()).append(' ').append(x.pool());
        for (int place = -1; place < 17; place++) {
            text.append(" | ").append(x.commitment(place)).append(' ').append(x.owner(place));
            text.append(' ').append(x.value(place)).append(' ').append(x.unspent(place));
        }
        text.append(" | balances and roots");
        for (int k = 0; k < 4; k++) {
            text.append(' ').append(x.balance(k)).append(' ').append(x.root(k));
        }
        text.append(" | nodes");
        for (int level = 0; level < 5; level++) {
            for (int number = 0; number < 16 >> level; number++) {
                text.append(' ').append(x.node(level, number));
            }
        }
        text.append(" | marks");
        for (int k = 0; k < 17; k++) {
            text.append(' ').append(x.mark(k));
        }
        return text.toString();
    }

    /** The nonces, which only load shows: it is called for each place, and changes the vector. */
    static String noncesOf(NotePool x) {
        StringBuilder text = new StringBuilder("nonces");
        for (int place = 0; place < 16; place++) {
            text.append(' ').append(x.load(place, 0, 0, 0, 0)).append(' ').append(x.get(7));
        }
        return text.toString();
    }

    private Pools() {
    }
}
