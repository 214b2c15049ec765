/** Vectors that load would never make, but that meet the conditions all the same. */
final class Forge {
    /** The vector as it stands in the pool. */
    static int[] cellsOf(NotePool pool) {
        int[] cells = new int[125];
        for (int cell = 0; cell < 125; cell++) {
            cells[cell] = pool.get(cell);
        }
        return cells;
    }

    /** Takes these cells, settles those that the others ask for, and sets them all. */
    static void put(NotePool pool, int[] cells) {
        Reference.settle(cells);
        for (int cell = 1; cell < 125; cell++) {
            pool.set(cell, cells[cell]);
        }
    }

    static void amount(int[] cells, int amount) {
        cells[9] = amount;
        for (int k = 0; k < 8; k++) {
            cells[27 + k] = amount >> k & 1;
        }
    }

    static void pay(int[] cells, int payeeKey, int amount, int withdrawn, int newNonce) {
        cells[4] = withdrawn;
        cells[8] = payeeKey;
        amount(cells, amount);
        cells[10] = newNonce;
    }

    /** A secret and a nonce with which a note of this value has the commitment 0 of an empty leaf. */
    static void emptyLeafNote(int[] cells, int value) {
        for (int secret = 0; secret < 100; secret++) {
            int inner = Reference.hashOf(Reference.hashOf(secret, 0), value);
            for (int nonce = 0; nonce < 65537; nonce++) {
                if (Reference.hashOf(inner, nonce) == 0) {
                    cells[5] = secret;
                    cells[6] = value;
                    cells[7] = nonce;
                    return;
                }
            }
        }
        throw new IllegalStateException("no such note");
    }

    /** Account 1's note of 255 with the nonce 25352 has the commitment 0 that every empty leaf shows. */
    static void emptyLeafNoteOfAccount1(int[] cells) {
        cells[5] = 101;
        cells[6] = 255;
        cells[7] = 25352;
    }

    /** Spends a note that was never made. What is not paid to account 2 is withdrawn. */
    static void spendEmptyLeaf(NotePool pool, int place, int amount, int newNonce) {
        int[] cells = new int[125];
        emptyLeafNoteOfAccount1(cells);
        path(pool, cells, place);
        pay(cells, Reference.hashOf(102, 0), amount, 255 - amount, newNonce);
        put(pool, cells);
    }

    /** The path of a place, the siblings taken from the tree as the pool shows it. */
    static void path(NotePool pool, int[] cells, int place) {
        for (int i = 0; i < 4; i++) {
            cells[15 + i] = place >> i & 1;
            cells[11 + i] = pool.node(i, place >> i ^ 1);
        }
    }

    /** A secret other than the account's own whose hash with 0 is the account's key; -1 if none. */
    static int otherSecret(int account) {
        int key = Reference.hashOf(100 + account, 0);
        for (int secret = 0; secret < 65537; secret++) {
            if (secret != 100 + account && Reference.hashOf(secret, 0) == key) {
                return secret;
            }
        }
        return -1;
    }

    /** Deposits a note of 6 whose mark is 0, and answers its account. */
    static int depositWithMarkZero(NotePool pool) {
        for (int account = 0; account < 4; account++) {
            int inner = Reference.hashOf(Reference.hashOf(100 + account, 0), 6);
            for (int nonce = 0; nonce < 65537; nonce++) {
                if (Reference.hashOf(100 + account, Reference.hashOf(inner, nonce)) == 0) {
                    pool.deposit(account, 6, nonce);
                    return account;
                }
            }
        }
        throw new IllegalStateException("no such note");
    }

    private Forge() {
    }
}
