/** The boundary cases of the promises 4 to 8 (load, set, get, fault, submit), sentence by sentence. */
public final class SpendBoundaryTest {
    private static final Check check = new Check();

    public static void main(String[] args) {
        loadFills();
        loadRefuses();
        cellsAndFault();
        submitRefuses();
        submitSpends();
        check.finish();
    }

    private static void loadFills() {
        check.sentence("4: Fills the vector for spending the note at this place, whether it was spent or not",
                SpendBoundaryTest::loadSpentOrNot);
        check.sentence("4: Secret: that of the note's owner", SpendBoundaryTest::loadSecret);
        check.sentence("4: Value and nonce: those of the note", SpendBoundaryTest::loadValueAndNonce);
        check.sentence("4: Payee's key: that of the account payee", SpendBoundaryTest::loadPayeesKey);
        check.sentence("4: Amount, withdrawn, new nonce: as given here", SpendBoundaryTest::loadAsGiven);
        check.sentence("4: Turn i: bit i of the place (bit 0 the lowest)", SpendBoundaryTest::loadTurns);
        check.sentence("4: Sibling i: .. the other one under the same node", SpendBoundaryTest::loadSiblings);
        check.sentence("4: in the tree as it is now", SpendBoundaryTest::loadTreeOfNow);
        check.sentence("4: Bits: those of the amount, bit 0 the lowest", SpendBoundaryTest::loadBits);
        check.sentence("4: All other cells (..) are such that the conditions 14 .. 114 hold",
                SpendBoundaryTest::loadOtherCells);
        check.sentence("4: Answers 1 if the vector meets the conditions then, 0 if it does not",
                SpendBoundaryTest::loadAnswers);
    }

    private static void loadRefuses() {
        check.sentence("4: UNKNOWN when there is no note at this place", SpendBoundaryTest::loadNoNote);
        check.sentence("4: UNKNOWN when payee is not 0 .. 3", SpendBoundaryTest::loadNoPayee);
        check.sentence("4: NONE when the note has no owner", SpendBoundaryTest::loadNoOwner);
        check.sentence("4: WRONG when the amount is not 0 .. 255", SpendBoundaryTest::loadWrongAmount);
        check.sentence("4: WRONG when withdrawn is not 0 .. 255", SpendBoundaryTest::loadWrongWithdrawn);
        check.sentence("4: WRONG when the new nonce is not 0 .. 65536", SpendBoundaryTest::loadWrongNonce);
    }

    private static void cellsAndFault() {
        check.sentence("5: A cell of the vector gets this number", SpendBoundaryTest::setEveryCell);
        check.sentence("5: false, changing nothing, when the cell is not 1 .. 124", SpendBoundaryTest::setNoCell);
        check.sentence("5: false, changing nothing, when the number is not 0 .. 65536",
                SpendBoundaryTest::setNoNumber);
        check.sentence("6: What a cell of the vector holds; NONE when it is not 0 .. 124",
                SpendBoundaryTest::getEdges);
        check.sentence("7: The least number of a condition that does not hold for the vector",
                SpendBoundaryTest::faultLeast);
        check.sentence("7: NONE when it meets all", SpendBoundaryTest::faultNone);
    }

    private static void submitRefuses() {
        check.sentence("8: WRONG when it does not meet the conditions", SpendBoundaryTest::submitWrong);
        check.sentence("8: LARGE when withdrawn is more than 255", SpendBoundaryTest::submitLarge);
        check.sentence("8: STALE when its root is not one of the recent roots", SpendBoundaryTest::submitStale);
        check.sentence("8: SPENT when its mark was used", SpendBoundaryTest::submitSpent);
        check.sentence("8: FULL when there are 16 notes", SpendBoundaryTest::submitFull);
    }

    private static void submitSpends() {
        check.sentence("8: Otherwise its mark is used from now on", SpendBoundaryTest::submitUsesMark);
        check.sentence("8: a note with its payee's key is made", SpendBoundaryTest::submitPayeesKey);
        check.sentence("8: with its amount as the value", SpendBoundaryTest::submitAmount);
        check.sentence("8: and its new nonce", SpendBoundaryTest::submitNewNonce);
        check.sentence("8: (whose commitment is its new commitment)", SpendBoundaryTest::submitCommitment);
        check.sentence("8: withdrawn is taken out of the pool", SpendBoundaryTest::submitWithdraws);
        check.sentence("8: the answer is the place of that note", SpendBoundaryTest::submitPlace);
        check.sentence("8: The vector stays as it is", SpendBoundaryTest::submitKeepsVector);
    }

    private static void loadSpentOrNot() {
        NotePool x = new NotePool();
        x.deposit(1, 20, 4);
        check.due("load of an unspent note", x.load(0, 2, 15, 5, 6), 1);
        check.due("submit()", x.submit(), 1);
        check.due("unspent(0)", x.unspent(0), false);
        check.due("load of a spent note", x.load(0, 3, 0, 20, 7), 1);
        check.due("fault()", x.fault(), -1);
        check.due("its value", x.get(6), 20);
        check.due("its payee's key", x.get(8), 44484);
        check.due("its root", x.get(1), x.root(0));
    }

    private static void loadSecret() {
        NotePool x = Pools.full();
        for (int place = 0; place < 16; place++) {
            x.load(place, 0, 0, 0, 0);
            check.due("secret for place " + place, x.get(5), 100 + place % 4);
        }
        NotePool paid = new NotePool();
        paid.deposit(0, 9, 0);
        paid.load(0, 3, 9, 0, 0);
        paid.submit();
        paid.load(1, 0, 9, 0, 0);
        check.due("secret of the payee's note", paid.get(5), 103);
    }

    private static void loadValueAndNonce() {
        int[][] valueAndNonce = {{0, 0}, {255, 65536}, {0, 65536}, {255, 0}, {1, 1}, {128, 32768}};
        NotePool x = new NotePool();
        for (int place = 0; place < valueAndNonce.length; place++) {
            x.deposit(2, valueAndNonce[place][0], valueAndNonce[place][1]);
        }
        for (int place = 0; place < valueAndNonce.length; place++) {
            x.load(place, 0, 0, 0, 0);
            check.due("value of place " + place, x.get(6), valueAndNonce[place][0]);
            check.due("nonce of place " + place, x.get(7), valueAndNonce[place][1]);
        }
    }

    private static void loadPayeesKey() {
        NotePool x = Pools.withDeposits(4);
        for (int place = 0; place < 4; place++) {
            for (int payee = 0; payee < 4; payee++) {
                check.due("load(" + place + ", " + payee + ", ..)", x.load(place, payee, 10 + place, 0, 0), 1);
                check.due("payee's key", x.get(8), Pools.KEYS[payee]);
            }
        }
    }

    private static void loadAsGiven() {
        NotePool x = new NotePool();
        x.deposit(0, 100, 0);
        int[][] given = {{0, 0, 0}, {255, 255, 65536}, {255, 0, 1}, {0, 255, 65535}, {100, 0, 5}, {0, 100, 6}};
        for (int[] row : given) {
            x.load(0, 1, row[0], row[1], row[2]);
            check.due("amount", x.get(9), row[0]);
            check.due("withdrawn", x.get(4), row[1]);
            check.due("new nonce", x.get(10), row[2]);
        }
    }

    private static void loadTurns() {
        NotePool x = Pools.full();
        for (int place = 0; place < 16; place++) {
            x.load(place, 0, 0, 10 + place, 0);
            check.due("fault() for place " + place, x.fault(), -1);
            for (int i = 0; i < 4; i++) {
                check.due("turn " + i + " of place " + place, x.get(15 + i), place / (1 << i) % 2);
            }
        }
    }

    private static void loadSiblings() {
        for (int count : new int[] {1, 2, 9, 16}) {
            NotePool x = Pools.withDeposits(count);
            for (int place = 0; place < count; place++) {
                x.load(place, 0, 0, 0, 0);
                for (int i = 0; i < 4; i++) {
                    int above = place >> i;
                    int other = above % 2 == 0 ? above + 1 : above - 1;
                    check.due("sibling " + i + " of place " + place, x.get(11 + i), x.node(i, other));
                }
            }
        }
        NotePool alone = Pools.withDeposits(1);
        alone.load(0, 0, 0, 0, 0);
        int[] empty = {0, 35311, 17356, 355};
        for (int i = 0; i < 4; i++) {
            check.due("sibling " + i + " of the only note", alone.get(11 + i), empty[i]);
        }
    }

    private static void loadTreeOfNow() {
        NotePool x = Pools.withDeposits(1);
        for (int count = 1; count <= 16; count++) {
            check.due("load with " + count + " notes", x.load(0, 0, 4, 6, 0), 1);
            check.due("its root", x.get(1), x.node(4, 0));
            check.due("sibling 0", x.get(11), count > 1 ? x.commitment(1) : 0);
            check.due("sibling 3", x.get(14), x.node(3, 1));
            int before = x.get(1);
            Pools.deposit(x, 1);
            check.due("a deposit leaves the vector", x.get(1), before);
        }
    }

    private static void loadBits() {
        NotePool x = Pools.withDeposits(1);
        for (int amount : new int[] {0, 1, 2, 4, 8, 16, 32, 64, 127, 128, 129, 170, 85, 254, 255}) {
            x.load(0, 0, amount, 0, 0);
            for (int k = 0; k < 8; k++) {
                check.due("bit " + k + " of " + amount, x.get(27 + k), amount / (1 << k) % 2);
            }
        }
    }

    /** Whatever stood there before, and also when condition 13 is not met. */
    private static void loadOtherCells() {
        for (int before : new int[] {0, 1, 65536}) {
            NotePool x = Pools.withDeposits(5);
            for (int cell = 1; cell < 125; cell++) {
                x.set(cell, before);
            }
            check.due("load that does not fit", x.load(4, 3, 255, 0, 65536), 0);
            check.due("fault()", x.fault(), 13);
            x.set(4, Reference.mod(14 - 255));
            check.due("fault() when withdrawn was put right", x.fault(), -1);
            Reference r = new Reference();
            for (int k = 0; k < 5; k++) {
                r.deposit(k % 4, 10 + k, 1000 + k);
            }
            r.load(4, 3, 255, 0, 65536);
            for (int cell = 5; cell < 125; cell++) {
                check.due("get(" + cell + ")", x.get(cell), r.get(cell));
            }
        }
    }

    private static void loadAnswers() {
        int[][] valueAmountWithdrawnDue = {{0, 0, 0, 1}, {0, 1, 0, 0}, {0, 0, 1, 0}, {255, 255, 0, 1},
            {255, 0, 255, 1}, {255, 255, 255, 0}, {255, 128, 127, 1}, {255, 128, 126, 0}, {255, 128, 128, 0},
            {0, 255, 1, 0}, {0, 128, 128, 0}, {254, 255, 255, 0}, {1, 255, 2, 0}};
        for (int[] row : valueAmountWithdrawnDue) {
            NotePool x = new NotePool();
            x.deposit(3, row[0], 0);
            check.due("load of " + row[0] + " for " + row[1] + " and " + row[2],
                    x.load(0, 3, row[1], row[2], 0), row[3]);
            check.due("fault()", x.fault(), row[3] == 1 ? -1 : 13);
        }
    }

    private static void loadNoNote() {
        check.due("load(0, ..) without notes", new NotePool().load(0, 0, 0, 0, 0), -2);
        for (int count : new int[] {1, 15, 16}) {
            NotePool x = Pools.withDeposits(count);
            check.due("load of the last of " + count, x.load(count - 1, 0, 9 + count, 0, 0), 1);
            check.due("load of the next of " + count, x.load(count, 0, 9 + count, 0, 0), -2);
            check.due("load(-1, ..)", x.load(-1, 0, 9 + count, 0, 0), -2);
            check.due("load(16, ..)", x.load(16, 0, 9 + count, 0, 0), -2);
            for (int far : Pools.FAR) {
                check.due("load(" + far + ", ..)", x.load(far, 0, 9 + count, 0, 0), -2);
            }
        }
    }

    private static void loadNoPayee() {
        NotePool x = Pools.withDeposits(1);
        check.due("payee 0", x.load(0, 0, 10, 0, 0), 1);
        check.due("payee 3", x.load(0, 3, 10, 0, 0), 1);
        check.due("payee -1", x.load(0, -1, 10, 0, 0), -2);
        check.due("payee 4", x.load(0, 4, 10, 0, 0), -2);
        for (int far : Pools.FAR) {
            check.due("payee " + far, x.load(0, far, 10, 0, 0), -2);
        }
    }

    private static void loadNoOwner() {
        NotePool x = Pools.withOwnerless();
        check.due("owner(1)", x.owner(1), -1);
        check.due("load that would fit", x.load(1, 0, 33, 0, 0), -1);
        check.due("load that would not fit", x.load(1, 3, 0, 0, 65536), -1);
        check.due("load of the owned note beside it", x.load(0, 0, 40, 0, 0), 1);
    }

    private static void loadWrongAmount() {
        NotePool x = Pools.withDeposits(1);
        check.due("amount 0", x.load(0, 0, 0, 10, 0), 1);
        check.due("amount 255", x.load(0, 0, 255, 0, 0), 0);
        check.due("amount -1", x.load(0, 0, -1, 11, 0), -3);
        check.due("amount 256", x.load(0, 0, 256, 0, 0), -3);
        for (int far : Pools.FAR) {
            check.due("amount " + far, x.load(0, 0, far, 0, 0), -3);
        }
    }

    private static void loadWrongWithdrawn() {
        NotePool x = Pools.withDeposits(1);
        check.due("withdrawn 0", x.load(0, 0, 10, 0, 0), 1);
        check.due("withdrawn 255", x.load(0, 0, 0, 255, 0), 0);
        check.due("withdrawn -1", x.load(0, 0, 11, -1, 0), -3);
        check.due("withdrawn 256", x.load(0, 0, 0, 256, 0), -3);
        check.due("withdrawn 65536", x.load(0, 0, 11, 65536, 0), -3);
        for (int far : Pools.FAR) {
            check.due("withdrawn " + far, x.load(0, 0, 0, far, 0), -3);
        }
    }

    private static void loadWrongNonce() {
        NotePool x = Pools.withDeposits(1);
        check.due("new nonce 0", x.load(0, 0, 10, 0, 0), 1);
        check.due("new nonce 65536", x.load(0, 0, 10, 0, 65536), 1);
        check.due("new nonce -1", x.load(0, 0, 10, 0, -1), -3);
        check.due("new nonce 65537", x.load(0, 0, 10, 0, 65537), -3);
        for (int far : Pools.FAR) {
            check.due("new nonce " + far, x.load(0, 0, 10, 0, far), -3);
        }
    }

    private static void setEveryCell() {
        NotePool x = new NotePool();
        for (int cell = 1; cell < 125; cell++) {
            check.due("set(" + cell + ", 65536)", x.set(cell, 65536), true);
            check.due("get(" + cell + ")", x.get(cell), 65536);
            check.due("get of the cell before", x.get(cell - 1), cell == 1 ? 1 : 65536);
            check.due("get of the cell after", x.get(cell + 1), cell == 124 ? -1 : 0);
        }
        check.due("set(1, 0)", x.set(1, 0), true);
        check.due("get(1)", x.get(1), 0);
    }

    private static void setNoCell() {
        refusesSet(0, 5);
        refusesSet(-1, 5);
        refusesSet(125, 5);
        for (int far : Pools.FAR) {
            refusesSet(far, 5);
        }
        NotePool x = new NotePool();
        check.due("set(1, 5)", x.set(1, 5), true);
        check.due("set(124, 5)", x.set(124, 5), true);
    }

    private static void setNoNumber() {
        for (int cell : new int[] {1, 9, 124}) {
            refusesSet(cell, -1);
            refusesSet(cell, 65537);
            for (int far : Pools.FAR) {
                refusesSet(cell, far);
            }
            NotePool x = new NotePool();
            check.due("set(" + cell + ", 65536)", x.set(cell, 65536), true);
            check.due("set(" + cell + ", 0)", x.set(cell, 0), true);
        }
    }

    private static void refusesSet(int cell, int number) {
        NotePool x = Pools.withDeposits(1);
        x.load(0, 1, 5, 5, 9);
        int[] before = Forge.cellsOf(x);
        check.due("set(" + cell + ", " + number + ")", x.set(cell, number), false);
        for (int other = 0; other < 125; other++) {
            check.due("get(" + other + ")", x.get(other), before[other]);
        }
    }

    private static void getEdges() {
        NotePool x = new NotePool();
        x.set(1, 7);
        x.set(124, 65536);
        check.due("get(0)", x.get(0), 1);
        check.due("get(1)", x.get(1), 7);
        check.due("get(124)", x.get(124), 65536);
        check.due("get(-1)", x.get(-1), -1);
        check.due("get(125)", x.get(125), -1);
        for (int far : Pools.FAR) {
            check.due("get(" + far + ")", x.get(far), -1);
        }
    }

    /** From the last condition to the first, one more is broken each time. */
    private static void faultLeast() {
        int[][] cellAndFault = {{3, 114}, {2, 113}, {1, 112}, {124, 111}, {107, 94}, {106, 93}, {98, 85}, {97, 84},
            {26, 75}, {22, 74}, {61, 40}, {43, 22}, {35, 14}, {4, 13}, {9, 12}, {34, 11}, {27, 4}, {18, 3}, {15, 0}};
        NotePool x = Pools.withDeposits(3);
        x.load(2, 1, 8, 4, 6);
        for (int[] row : cellAndFault) {
            x.set(row[0], Reference.mod(x.get(row[0]) + 2));
            check.due("fault() with 2 more in cell " + row[0] + " too", x.fault(), row[1]);
        }
        check.due("fault() of a new object", new NotePool().fault(), 14);
    }

    private static void faultNone() {
        NotePool x = new NotePool();
        x.deposit(0, 255, 65536);
        x.load(0, 3, 255, 0, 65536);
        check.due("fault() after load", x.fault(), -1);
        x.submit();
        check.due("fault() after submit, though it is spent", x.fault(), -1);
        Pools.fill(x);
        check.due("fault() though it is stale and all is full", x.fault(), -1);
        x.load(0, 3, 254, 2, 0);
        x.set(6, 256);
        check.due("fault() with another value", x.fault(), 23);
    }

    private static void submitWrong() {
        check.due("submit() of a new object", new NotePool().submit(), -3);
        for (int cell = 1; cell < 125; cell++) {
            NotePool x = Pools.withDeposits(2);
            x.load(1, 3, 7, 4, 9);
            x.set(cell, Reference.mod(x.get(cell) + 2));
            check.due("submit() with 2 more in cell " + cell, x.submit(), -3);
            check.due("notes()", x.notes(), 2);
            x.set(cell, Reference.mod(x.get(cell) - 2));
            check.due("submit() when it was put right", x.submit(), 2);
        }
        NotePool x = Pools.withDeposits(1);
        x.load(0, 3, 10, 1, 9);
        check.due("submit() of more than the note has", x.submit(), -3);
    }

    private static void submitLarge() {
        NotePool x = new NotePool();
        x.deposit(0, 255, 0);
        x.load(0, 1, 0, 255, 0);
        check.due("submit(), 255 withdrawn", x.submit(), 1);
        x.deposit(0, 0, 0);
        x.load(2, 1, 1, 0, 0);
        x.set(4, 65536);
        check.due("fault()", x.fault(), -1);
        check.due("submit(), 65536 withdrawn, 1 paid, out of 0", x.submit(), -4);
        x.load(2, 1, 255, 0, 0);
        x.set(4, 65282);
        check.due("submit(), 65282 withdrawn, 255 paid, out of 0", x.submit(), -4);
        for (int withdrawn : new int[] {254, 255, 256, 257}) {
            NotePool y = new NotePool();
            int[] cells = Forge.cellsOf(y);
            Forge.emptyLeafNote(cells, withdrawn);
            Forge.path(y, cells, 3);
            Forge.pay(cells, 991, 0, withdrawn, 4);
            Forge.put(y, cells);
            check.due("fault()", y.fault(), -1);
            check.due("submit(), " + withdrawn + " withdrawn", y.submit(), withdrawn > 255 ? -4 : 0);
        }
    }

    private static void submitStale() {
        NotePool x = Pools.withDeposits(1);
        x.load(0, 1, 10, 0, 2);
        Pools.deposit(x, 4);
        check.due("submit(), the root before the fourth latest note", x.submit(), -5);
        NotePool y = Pools.withDeposits(1);
        y.load(0, 1, 10, 0, 2);
        Pools.deposit(y, 3);
        check.due("submit(), the root before the third latest note", y.submit(), 4);
        NotePool z = Pools.withDeposits(1);
        z.load(0, 1, 10, 0, 2);
        int[] cells = Forge.cellsOf(z);
        cells[14] = 356;
        Forge.put(z, cells);
        check.due("fault()", z.fault(), -1);
        check.due("submit(), the root of a tree there never was", z.submit(), -5);
        NotePool w = new NotePool();
        w.set(1, 0);
        cells = Forge.cellsOf(w);
        Forge.put(w, cells);
        check.due("fault()", w.fault(), -1);
        check.due("submit() without notes", w.submit(), -5);
    }

    private static void submitSpent() {
        NotePool x = new NotePool();
        x.deposit(0, 9, 1);
        x.deposit(0, 9, 1);
        x.load(0, 1, 9, 0, 2);
        check.due("submit()", x.submit(), 2);
        check.due("the same vector again", x.submit(), -6);
        x.load(0, 3, 0, 9, 5);
        check.due("another payment of the same note", x.submit(), -6);
        x.load(1, 1, 9, 0, 2);
        check.due("the note that is like it", x.submit(), -6);
        x.load(2, 1, 9, 0, 2);
        check.due("another note", x.submit(), 3);
        NotePool other = new NotePool();
        other.deposit(0, 9, 1);
        other.load(0, 1, 9, 0, 2);
        check.due("the same spending in another object", other.submit(), 1);
    }

    private static void submitFull() {
        for (int count : new int[] {14, 15, 16}) {
            NotePool x = Pools.withDeposits(count);
            x.load(count - 1, 1, 9 + count, 0, 2);
            check.due("submit() with " + count + " notes", x.submit(), count < 16 ? count : -7);
            check.due("notes()", x.notes(), Math.min(16, count + 1));
            check.due("unspent", x.unspent(count - 1), count == 16);
        }
    }

    private static void submitUsesMark() {
        NotePool x = Pools.withDeposits(2);
        x.load(1, 0, 11, 0, 4);
        int mark = x.get(2);
        check.due("used() before", x.used(), 0);
        check.due("unspent(1) before", x.unspent(1), true);
        check.due("submit()", x.submit(), 2);
        check.due("used()", x.used(), 1);
        check.due("mark(0)", x.mark(0), mark);
        check.due("unspent(1)", x.unspent(1), false);
        check.due("unspent(0)", x.unspent(0), true);
        check.due("balance(1)", x.balance(1), 0);
        check.due("submit() again", x.submit(), -6);
    }

    private static void submitPayeesKey() {
        for (int payee = 0; payee < 4; payee++) {
            NotePool x = new NotePool();
            x.deposit(2, 40, 8);
            x.load(0, payee, 33, 7, 5);
            check.due("submit()", x.submit(), 1);
            check.due("owner(1)", x.owner(1), payee);
            check.due("balance", x.balance(payee), 33);
        }
        for (int key : new int[] {0, 65536, Pools.NO_ONES_KEY}) {
            NotePool x = new NotePool();
            x.deposit(2, 40, 8);
            Pools.payToKey(x, key);
            check.due("submit()", x.submit(), 1);
            check.due("owner(1) for the key " + key, x.owner(1), -1);
            check.due("commitment(1)", x.commitment(1), x.hash(x.hash(key, 33), 5));
        }
    }

    private static void submitAmount() {
        for (int amount : new int[] {0, 1, 254, 255}) {
            NotePool x = new NotePool();
            x.deposit(2, 255, 8);
            x.load(0, 3, amount, 255 - amount, 5);
            check.due("submit()", x.submit(), 1);
            check.due("value(1)", x.value(1), amount);
            check.due("balance(3)", x.balance(3), amount);
        }
    }

    private static void submitNewNonce() {
        for (int nonce : new int[] {0, 1, 65535, 65536}) {
            NotePool x = new NotePool();
            x.deposit(2, 255, 8);
            x.load(0, 3, 255, 0, nonce);
            check.due("submit()", x.submit(), 1);
            check.due("commitment(1)", x.commitment(1), x.hash(x.hash(44484, 255), nonce));
            check.due("load(1, ..)", x.load(1, 0, 255, 0, 77), 1);
            check.due("the nonce", x.get(7), nonce);
            check.due("submit() of the new note", x.submit(), 2);
        }
    }

    private static void submitCommitment() {
        NotePool x = Pools.withDeposits(1);
        for (int place = 0; place < 15; place++) {
            x.load(place, place % 4, 10, 0, 65536 - place);
            int newCommitment = x.get(3);
            x.submit();
            check.due("commitment(" + (place + 1) + ")", x.commitment(place + 1), newCommitment);
            check.due("node(0, " + (place + 1) + ")", x.node(0, place + 1), newCommitment);
        }
    }

    private static void submitWithdraws() {
        for (int withdrawn : new int[] {0, 1, 254, 255}) {
            NotePool x = new NotePool();
            x.deposit(0, 255, 0);
            x.deposit(1, 9, 0);
            x.load(0, 0, 255 - withdrawn, withdrawn, 0);
            check.due("pool() after load", x.pool(), 264);
            check.due("submit()", x.submit(), 2);
            check.due("pool() less " + withdrawn, x.pool(), 264 - withdrawn);
        }
    }

    private static void submitPlace() {
        check.due("submit() of an empty leaf without notes", submitAtEmptyLeaf(), 0);
        for (int count = 1; count < 16; count++) {
            NotePool x = Pools.withDeposits(count);
            x.load(0, 0, 0, 10, 0);
            check.due("submit() with " + count + " notes", x.submit(), count);
            check.due("value", x.value(count), 0);
        }
    }

    private static int submitAtEmptyLeaf() {
        NotePool x = new NotePool();
        Forge.spendEmptyLeaf(x, 15, 0, 65536);
        return x.submit();
    }

    private static void submitKeepsVector() {
        NotePool x = Pools.withDeposits(3);
        x.load(1, 2, 5, 6, 7);
        int[] before = Forge.cellsOf(x);
        check.due("submit()", x.submit(), 3);
        for (int cell = 0; cell < 125; cell++) {
            check.due("get(" + cell + ") after submit", x.get(cell), before[cell]);
        }
        check.due("fault()", x.fault(), -1);
    }

    private SpendBoundaryTest() {
    }
}
