import java.util.Arrays;

/** The boundary cases of the promises 1 to 3 and 9 to 19, sentence by sentence. */
public final class PoolBoundaryTest {
    private static final Check check = new Check();

    public static void main(String[] args) {
        newObjectAndHash();
        deposits();
        notes();
        spentOrNot();
        tree();
        marksAndPool();
        check.finish();
    }

    private static void newObjectAndHash() {
        check.sentence("1: No notes", PoolBoundaryTest::newNoNotes);
        check.sentence("1: no marks used", PoolBoundaryTest::newNoMarks);
        check.sentence("1: all cells of the vector hold 0 but cell 0", PoolBoundaryTest::newCells);
        check.sentence("2: The hash of a and b", PoolBoundaryTest::hashOfEnds);
        check.sentence("2: NONE when a is not 0 .. 65536", PoolBoundaryTest::hashWrongA);
        check.sentence("2: NONE when b is not 0 .. 65536", PoolBoundaryTest::hashWrongB);
    }

    private static void deposits() {
        check.sentence("3: Makes a note with the key of this account, this value and this nonce",
                PoolBoundaryTest::depositMakes);
        check.sentence("3: and answers its place", PoolBoundaryTest::depositPlaces);
        check.sentence("3: UNKNOWN when the account is not 0 .. 3", PoolBoundaryTest::depositAccount);
        check.sentence("3: WRONG when the value is not 0 .. 255", PoolBoundaryTest::depositValue);
        check.sentence("3: WRONG when the nonce is not 0 .. 65536", PoolBoundaryTest::depositNonce);
        check.sentence("3: FULL", PoolBoundaryTest::depositFull);
    }

    private static void notes() {
        check.sentence("9: The number of notes that were made", PoolBoundaryTest::noteCount);
        check.sentence("10: The commitment of the note at this place", PoolBoundaryTest::commitmentOf);
        check.sentence("10: UNKNOWN when there is none", PoolBoundaryTest::commitmentUnknown);
        check.sentence("11: The owner of the note at this place", PoolBoundaryTest::ownerOf);
        check.sentence("11: UNKNOWN when there is no note", PoolBoundaryTest::ownerUnknown);
        check.sentence("11: NONE when it has no owner", PoolBoundaryTest::ownerNone);
        check.sentence("12: The value of the note at this place", PoolBoundaryTest::valueOf);
        check.sentence("12: UNKNOWN when there is none", PoolBoundaryTest::valueUnknown);
    }

    private static void spentOrNot() {
        check.sentence("13: Whether there is a note at this place", PoolBoundaryTest::unspentNoNote);
        check.sentence("13: that has an owner", PoolBoundaryTest::unspentNoOwner);
        check.sentence("13: and whose mark was not used", PoolBoundaryTest::unspentMark);
        check.sentence("14: The sum (not modulo anything) of the values", PoolBoundaryTest::balanceSum);
        check.sentence("14: of the notes that this account owns", PoolBoundaryTest::balanceOwner);
        check.sentence("14: and whose marks were not used", PoolBoundaryTest::balanceMark);
        check.sentence("14: UNKNOWN when the account is not 0 .. 3", PoolBoundaryTest::balanceUnknown);
    }

    private static void tree() {
        check.sentence("15: The k-th of the recent roots: the present one for k = 0, the one before the latest "
                + "note was made for k = 1, and so on", PoolBoundaryTest::rootOrder);
        check.sentence("15: NONE when k is not 0 .. 3", PoolBoundaryTest::rootWrongK);
        check.sentence("15: or there were not so many", PoolBoundaryTest::rootNotSoMany);
        check.sentence("16: The node or leaf with this number (from 0 on the left) of a level (0 the leaves, "
                + "4 the root) of the tree", PoolBoundaryTest::nodeEnds);
        check.sentence("16: NONE when there is no such level", PoolBoundaryTest::nodeNoLevel);
        check.sentence("16: or number", PoolBoundaryTest::nodeNoNumber);
    }

    private static void marksAndPool() {
        check.sentence("17: The number of marks used", PoolBoundaryTest::usedCount);
        check.sentence("18: The mark used that k other marks used are less than", PoolBoundaryTest::markOrder);
        check.sentence("18: NONE when there is none", PoolBoundaryTest::markNone);
        check.sentence("18: the mark 0 is one like any other", PoolBoundaryTest::markZero);
        check.sentence("19: All values deposited", PoolBoundaryTest::poolDeposits);
        check.sentence("19: less all that was withdrawn", PoolBoundaryTest::poolWithdrawals);
    }

    private static void newNoNotes() {
        NotePool x = new NotePool();
        check.due("notes()", x.notes(), 0);
        check.due("pool()", x.pool(), 0);
        check.due("root(0)", x.root(0), Pools.EMPTY_ROOT);
        check.due("root(1)", x.root(1), -1);
        for (int place = 0; place < 16; place++) {
            check.due("commitment(" + place + ")", x.commitment(place), -2);
            check.due("node(0, " + place + ")", x.node(0, place), 0);
        }
        for (int account = 0; account < 4; account++) {
            check.due("balance(" + account + ")", x.balance(account), 0);
        }
    }

    private static void newNoMarks() {
        NotePool x = new NotePool();
        check.due("used()", x.used(), 0);
        for (int k = 0; k < 16; k++) {
            check.due("mark(" + k + ")", x.mark(k), -1);
        }
        NotePool other = Pools.withDeposits(1);
        other.load(0, 1, 10, 0, 0);
        other.submit();
        check.due("used() beside an object that used one", x.used(), 0);
        check.due("used() of the next new object", new NotePool().used(), 0);
    }

    private static void newCells() {
        NotePool other = Pools.withDeposits(1);
        other.load(0, 1, 10, 0, 0);
        NotePool x = new NotePool();
        check.due("get(0)", x.get(0), 1);
        for (int cell = 1; cell < 125; cell++) {
            check.due("get(" + cell + ")", x.get(cell), 0);
        }
    }

    private static void hashOfEnds() {
        NotePool x = new NotePool();
        check.due("hash(0, 0)", x.hash(0, 0), 35311);
        check.due("hash(65536, 0)", x.hash(65536, 0), 40197);
        check.due("hash(0, 65536)", x.hash(0, 65536), 22152);
        check.due("hash(65536, 65536)", x.hash(65536, 65536), 64295);
    }

    private static void hashWrongA() {
        NotePool x = new NotePool();
        for (int b : new int[] {0, 65536}) {
            check.due("hash(-1, " + b + ")", x.hash(-1, b), -1);
            check.due("hash(65537, " + b + ")", x.hash(65537, b), -1);
            for (int far : Pools.FAR) {
                check.due("hash(" + far + ", " + b + ")", x.hash(far, b), -1);
            }
        }
    }

    private static void hashWrongB() {
        NotePool x = new NotePool();
        for (int a : new int[] {0, 65536}) {
            check.due("hash(" + a + ", -1)", x.hash(a, -1), -1);
            check.due("hash(" + a + ", 65537)", x.hash(a, 65537), -1);
            for (int far : Pools.FAR) {
                check.due("hash(" + a + ", " + far + ")", x.hash(a, far), -1);
            }
        }
    }

    private static void depositMakes() {
        for (int account = 0; account < 4; account++) {
            for (int value : new int[] {0, 255}) {
                for (int nonce : new int[] {0, 65536}) {
                    NotePool x = new NotePool();
                    check.due("deposit", x.deposit(account, value, nonce), 0);
                    check.due("owner(0)", x.owner(0), account);
                    check.due("value(0)", x.value(0), value);
                    check.due("commitment(0)", x.commitment(0), x.hash(x.hash(Pools.KEYS[account], value), nonce));
                    x.load(0, 0, 0, 0, 0);
                    check.due("the nonce that load shows", x.get(7), nonce);
                }
            }
        }
    }

    private static void depositPlaces() {
        NotePool x = new NotePool();
        for (int place = 0; place < 16; place++) {
            check.due("deposit, place " + place, x.deposit(3, 255, 65536), place);
        }
    }

    private static void depositAccount() {
        NotePool x = new NotePool();
        check.due("deposit(-1, 0, 0)", x.deposit(-1, 0, 0), -2);
        check.due("deposit(4, 0, 0)", x.deposit(4, 0, 0), -2);
        for (int far : Pools.FAR) {
            check.due("deposit(" + far + ", 0, 0)", x.deposit(far, 0, 0), -2);
        }
        check.due("notes()", x.notes(), 0);
        check.due("deposit(0, 0, 0)", x.deposit(0, 0, 0), 0);
        check.due("deposit(3, 0, 0)", x.deposit(3, 0, 0), 1);
    }

    private static void depositValue() {
        NotePool x = new NotePool();
        check.due("deposit(0, -1, 0)", x.deposit(0, -1, 0), -3);
        check.due("deposit(0, 256, 0)", x.deposit(0, 256, 0), -3);
        check.due("deposit(0, 65536, 0)", x.deposit(0, 65536, 0), -3);
        for (int far : Pools.FAR) {
            check.due("deposit(0, " + far + ", 0)", x.deposit(0, far, 0), -3);
        }
        check.due("notes()", x.notes(), 0);
        check.due("deposit(0, 0, 0)", x.deposit(0, 0, 0), 0);
        check.due("deposit(0, 255, 0)", x.deposit(0, 255, 0), 1);
    }

    private static void depositNonce() {
        NotePool x = new NotePool();
        check.due("deposit(0, 0, -1)", x.deposit(0, 0, -1), -3);
        check.due("deposit(0, 0, 65537)", x.deposit(0, 0, 65537), -3);
        for (int far : Pools.FAR) {
            check.due("deposit(0, 0, " + far + ")", x.deposit(0, 0, far), -3);
        }
        check.due("notes()", x.notes(), 0);
        check.due("deposit(0, 0, 0)", x.deposit(0, 0, 0), 0);
        check.due("deposit(0, 0, 65536)", x.deposit(0, 0, 65536), 1);
    }

    private static void depositFull() {
        NotePool x = Pools.withDeposits(15);
        check.due("the 16th", x.deposit(0, 1, 1), 15);
        check.due("the 17th", x.deposit(0, 1, 1), -7);
        check.due("the 17th again", x.deposit(3, 0, 65536), -7);
        check.due("notes()", x.notes(), 16);
    }

    private static void noteCount() {
        NotePool x = new NotePool();
        check.due("notes() at first", x.notes(), 0);
        x.deposit(0, 40, 8);
        check.due("notes() after a deposit", x.notes(), 1);
        x.load(0, 0, 40, 0, 1);
        check.due("notes() after load", x.notes(), 1);
        x.submit();
        check.due("notes() after submit, the spent one counted", x.notes(), 2);
        x.deposit(0, 256, 8);
        check.due("notes() after a refused deposit", x.notes(), 2);
        x.submit();
        check.due("notes() after a refused submit", x.notes(), 2);
        Pools.fill(x);
        check.due("notes() when full", x.notes(), 16);
        x.deposit(0, 1, 1);
        check.due("notes() after FULL", x.notes(), 16);
    }

    private static void commitmentOf() {
        NotePool x = Pools.full();
        check.due("commitment(0)", x.commitment(0), x.hash(x.hash(24908, 10), 1000));
        check.due("commitment(15)", x.commitment(15), x.hash(x.hash(44484, 25), 1015));
        NotePool zero = new NotePool();
        zero.deposit(0, 0, 823);
        check.due("commitment(0) that is 0", zero.commitment(0), 0);
        NotePool ownerless = Pools.withOwnerless();
        check.due("commitment(0) of a spent note", ownerless.commitment(0), x.hash(x.hash(24908, 40), 8));
        check.due("commitment(1) without owner", ownerless.commitment(1), x.hash(x.hash(12345, 33), 5));
    }

    private static void commitmentUnknown() {
        for (int count : new int[] {0, 1, 15, 16}) {
            NotePool x = Pools.withDeposits(count);
            check.due("commitment(" + count + ")", x.commitment(count), -2);
            check.due("commitment(-1)", x.commitment(-1), -2);
            check.due("commitment(16)", x.commitment(16), -2);
            for (int far : Pools.FAR) {
                check.due("commitment(" + far + ")", x.commitment(far), -2);
            }
        }
    }

    private static void ownerOf() {
        NotePool x = Pools.full();
        for (int place = 0; place < 16; place++) {
            check.due("owner(" + place + ")", x.owner(place), place % 4);
        }
        NotePool spent = Pools.withOwnerless();
        check.due("unspent(0)", spent.unspent(0), false);
        check.due("owner(0) of a spent note", spent.owner(0), 0);
    }

    private static void ownerUnknown() {
        for (int count : new int[] {0, 1, 15, 16}) {
            NotePool x = Pools.withDeposits(count);
            check.due("owner(" + count + ")", x.owner(count), -2);
            check.due("owner(-1)", x.owner(-1), -2);
            check.due("owner(16)", x.owner(16), -2);
            for (int far : Pools.FAR) {
                check.due("owner(" + far + ")", x.owner(far), -2);
            }
        }
    }

    private static void ownerNone() {
        NotePool x = Pools.withOwnerless();
        check.due("owner(1)", x.owner(1), -1);
        check.due("owner(2), no note", x.owner(2), -2);
    }

    private static void valueOf() {
        NotePool x = Pools.full();
        for (int place = 0; place < 16; place++) {
            check.due("value(" + place + ")", x.value(place), 10 + place);
        }
        NotePool ends = new NotePool();
        ends.deposit(0, 0, 0);
        ends.deposit(0, 255, 0);
        check.due("value(0)", ends.value(0), 0);
        check.due("value(1)", ends.value(1), 255);
        NotePool ownerless = Pools.withOwnerless();
        check.due("value(0) of a spent note", ownerless.value(0), 40);
        check.due("value(1) without owner", ownerless.value(1), 33);
    }

    private static void valueUnknown() {
        for (int count : new int[] {0, 1, 15, 16}) {
            NotePool x = Pools.withDeposits(count);
            check.due("value(" + count + ")", x.value(count), -2);
            check.due("value(-1)", x.value(-1), -2);
            check.due("value(16)", x.value(16), -2);
            for (int far : Pools.FAR) {
                check.due("value(" + far + ")", x.value(far), -2);
            }
        }
    }

    private static void unspentNoNote() {
        for (int count : new int[] {0, 1, 15, 16}) {
            NotePool x = Pools.withDeposits(count);
            check.due("unspent of the last of " + count, x.unspent(count - 1), count > 0);
            check.due("unspent of the next of " + count, x.unspent(count), false);
            check.due("unspent(-1)", x.unspent(-1), false);
            check.due("unspent(16)", x.unspent(16), false);
            for (int far : Pools.FAR) {
                check.due("unspent(" + far + ")", x.unspent(far), false);
            }
        }
    }

    private static void unspentNoOwner() {
        NotePool x = Pools.withOwnerless();
        check.due("owner(1)", x.owner(1), -1);
        check.due("unspent(1)", x.unspent(1), false);
        x.deposit(1, 33, 5);
        check.due("unspent(2), with an owner", x.unspent(2), true);
    }

    private static void unspentMark() {
        NotePool x = new NotePool();
        x.deposit(0, 0, 65536);
        x.deposit(0, 0, 65536);
        x.deposit(1, 0, 65536);
        check.due("unspent(0)", x.unspent(0), true);
        x.load(1, 2, 0, 0, 0);
        check.due("unspent(1) after load", x.unspent(1), true);
        x.submit();
        check.due("unspent(1) after submit", x.unspent(1), false);
        check.due("unspent(0), which has the same mark", x.unspent(0), false);
        check.due("unspent(2), which has another", x.unspent(2), true);
        x.deposit(0, 0, 65536);
        check.due("unspent(4), made after its mark was used", x.unspent(4), false);
        check.due("balance(0)", x.balance(0), 0);
        NotePool y = new NotePool();
        Forge.spendEmptyLeaf(y, 0, 255, 0);
        check.due("submit() of a note that was never made", y.submit(), 0);
        y.deposit(1, 255, 25352);
        check.due("unspent(1), made after that", y.unspent(1), false);
    }

    private static void balanceSum() {
        NotePool x = new NotePool();
        check.due("balance(2) without notes", x.balance(2), 0);
        for (int count = 1; count <= 16; count++) {
            x.deposit(2, 255, count);
            check.due("balance(2) of " + count, x.balance(2), 255 * count);
        }
        x.deposit(2, 255, 99);
        check.due("balance(2) after FULL", x.balance(2), 4080);
        NotePool zero = new NotePool();
        zero.deposit(2, 0, 0);
        check.due("balance(2) of a note of 0", zero.balance(2), 0);
    }

    private static void balanceOwner() {
        NotePool x = new NotePool();
        for (int account = 0; account < 4; account++) {
            x.deposit(account, 1 << account, 0);
        }
        for (int account = 0; account < 4; account++) {
            check.due("balance(" + account + ")", x.balance(account), 1 << account);
        }
        NotePool ownerless = Pools.withOwnerless();
        for (int account = 0; account < 4; account++) {
            check.due("balance(" + account + ") beside a note without owner", ownerless.balance(account), 0);
        }
    }

    private static void balanceMark() {
        NotePool x = new NotePool();
        x.deposit(0, 100, 1);
        x.deposit(0, 100, 1);
        x.deposit(0, 100, 2);
        check.due("balance(0)", x.balance(0), 300);
        x.load(0, 0, 30, 70, 3);
        check.due("balance(0) after load", x.balance(0), 300);
        x.submit();
        check.due("balance(0), two marks the same, 30 paid to itself", x.balance(0), 130);
        x.deposit(0, 100, 1);
        check.due("balance(0), a third with the mark used", x.balance(0), 130);
    }

    private static void balanceUnknown() {
        NotePool x = Pools.withDeposits(4);
        check.due("balance(0)", x.balance(0), 10);
        check.due("balance(3)", x.balance(3), 13);
        check.due("balance(-1)", x.balance(-1), -2);
        check.due("balance(4)", x.balance(4), -2);
        for (int far : Pools.FAR) {
            check.due("balance(" + far + ")", x.balance(far), -2);
        }
        NotePool ownerless = Pools.withOwnerless();
        check.due("balance(-1) beside a note without owner", ownerless.balance(-1), -2);
    }

    private static void rootOrder() {
        NotePool x = new NotePool();
        int[] roots = new int[17];
        roots[0] = Pools.EMPTY_ROOT;
        x.deposit(0, 9, 0);
        for (int count = 1; count <= 16; count++) {
            roots[count] = x.node(4, 0);
            for (int k = 0; k < 4 && k <= count; k++) {
                check.due("root(" + k + ") of " + count, x.root(k), roots[count - k]);
            }
            x.load(count - 1, 1, 9, 0, count);
            check.due("load leaves the root", x.root(0), roots[count]);
            x.submit();
        }
        check.due("root(0) after FULL", x.root(0), roots[16]);
        check.due("root(3) after FULL", x.root(3), roots[13]);
    }

    private static void rootWrongK() {
        for (int count : new int[] {0, 4, 16}) {
            NotePool x = Pools.withDeposits(count);
            check.due("root(-1)", x.root(-1), -1);
            check.due("root(4)", x.root(4), -1);
            check.due("root(5)", x.root(5), -1);
            for (int far : Pools.FAR) {
                check.due("root(" + far + ")", x.root(far), -1);
            }
        }
    }

    private static void rootNotSoMany() {
        for (int count = 0; count <= 4; count++) {
            NotePool x = Pools.withDeposits(count);
            for (int k = 0; k < 4; k++) {
                check.due("root(" + k + ") of " + count + " is there", x.root(k) != -1, k <= count);
            }
        }
    }

    private static void nodeEnds() {
        NotePool x = Pools.full();
        check.due("node(0, 0)", x.node(0, 0), x.commitment(0));
        check.due("node(0, 15)", x.node(0, 15), x.commitment(15));
        check.due("node(1, 0)", x.node(1, 0), x.hash(x.commitment(0), x.commitment(1)));
        check.due("node(1, 7)", x.node(1, 7), x.hash(x.commitment(14), x.commitment(15)));
        check.due("node(2, 3)", x.node(2, 3), x.hash(x.node(1, 6), x.node(1, 7)));
        check.due("node(3, 0)", x.node(3, 0), x.hash(x.node(2, 0), x.node(2, 1)));
        check.due("node(3, 1)", x.node(3, 1), x.hash(x.node(2, 2), x.node(2, 3)));
        check.due("node(4, 0)", x.node(4, 0), x.hash(x.node(3, 0), x.node(3, 1)));
        check.due("root(0)", x.root(0), x.node(4, 0));
        NotePool fifteen = Pools.withDeposits(15);
        check.due("node(0, 15) of 15 notes", fifteen.node(0, 15), 0);
        check.due("node(0, 14) of 15 notes", fifteen.node(0, 14), fifteen.commitment(14));
    }

    private static void nodeNoLevel() {
        NotePool x = Pools.full();
        for (int number : new int[] {0, 1, 15}) {
            check.due("node(-1, " + number + ")", x.node(-1, number), -1);
            check.due("node(5, " + number + ")", x.node(5, number), -1);
            check.due("node(31, " + number + ")", x.node(31, number), -1);
            check.due("node(32, " + number + ")", x.node(32, number), -1);
            for (int far : Pools.FAR) {
                check.due("node(" + far + ", " + number + ")", x.node(far, number), -1);
            }
        }
    }

    private static void nodeNoNumber() {
        NotePool x = Pools.full();
        for (int level = 0; level <= 4; level++) {
            int width = 16 >> level;
            check.due("the last of level " + level, x.node(level, width - 1) >= 0, true);
            check.due("the next of level " + level, x.node(level, width), -1);
            check.due("node(" + level + ", -1)", x.node(level, -1), -1);
            check.due("node(" + level + ", " + -width + ")", x.node(level, -width), -1);
            for (int far : Pools.FAR) {
                check.due("node(" + level + ", " + far + ")", x.node(level, far), -1);
            }
        }
    }

    private static void usedCount() {
        NotePool x = new NotePool();
        check.due("used()", x.used(), 0);
        Forge.spendEmptyLeaf(x, 0, 9, 0);
        for (int count = 1; count <= 16; count++) {
            check.due("submit()", x.submit(), count - 1);
            check.due("used()", x.used(), count);
            check.due("load", x.load(count - 1, 1, 9, 0, count), 1);
        }
        check.due("submit() when full", x.submit(), -7);
        check.due("used() after FULL", x.used(), 16);
        check.due("unspent(14)", x.unspent(14), false);
        check.due("unspent(15) with 16 marks used", x.unspent(15), true);
        x.load(0, 1, 9, 0, 0);
        check.due("submit() of a spent one", x.submit(), -6);
        check.due("used() after SPENT", x.used(), 16);
    }

    private static void markOrder() {
        NotePool x = new NotePool();
        Forge.spendEmptyLeaf(x, 0, 9, 0);
        int[] used = new int[16];
        for (int count = 1; count <= 16; count++) {
            used[count - 1] = x.get(2);
            x.submit();
            int[] sorted = Arrays.copyOf(used, count);
            Arrays.sort(sorted);
            for (int k = 0; k < count; k++) {
                check.due("mark(" + k + ") of " + count, x.mark(k), sorted[k]);
            }
            x.load(count - 1, 1, 9, 0, count);
        }
        markOrderOfUse(true);
        markOrderOfUse(false);
    }

    /** Four notes are spent, the one with the greatest or the one with the least mark first. */
    private static void markOrderOfUse(boolean fallingOrder) {
        NotePool x = Pools.withDeposits(4);
        Integer[] places = {0, 1, 2, 3};
        int[] marks = new int[4];
        for (int place : places) {
            marks[place] = x.hash(100 + place, x.commitment(place));
        }
        Arrays.sort(places, (a, b) -> fallingOrder ? marks[b] - marks[a] : marks[a] - marks[b]);
        for (int place : places) {
            x.load(place, 0, 10 + place, 0, 0);
            check.due("submit()", x.submit() > 0, true);
            check.due("the end where it stands", x.mark(fallingOrder ? 0 : x.used() - 1), marks[place]);
        }
        Arrays.sort(marks);
        for (int k = 0; k < 4; k++) {
            check.due("mark(" + k + ")", x.mark(k), marks[k]);
        }
    }

    private static void markNone() {
        NotePool x = Pools.withDeposits(1);
        for (int count = 0; count <= 2; count++) {
            check.due("mark(-1)", x.mark(-1), -1);
            for (int k = count; k <= 17; k++) {
                check.due("mark(" + k + ") of " + count, x.mark(k), -1);
            }
            check.due("the last mark of " + count + " is there", x.mark(count - 1) != -1, count > 0);
            for (int far : Pools.FAR) {
                check.due("mark(" + far + ")", x.mark(far), -1);
            }
            x.load(count, 0, 10, 0, 1);
            x.submit();
        }
    }

    private static void markZero() {
        NotePool x = new NotePool();
        int account = Forge.depositWithMarkZero(x);
        check.due("unspent(0) with the mark 0", x.unspent(0), true);
        check.due("balance(" + account + ")", x.balance(account), 6);
        check.due("load", x.load(0, 2, 6, 0, 0), 1);
        check.due("the mark", x.get(2), 0);
        check.due("submit()", x.submit(), 1);
        check.due("submit() again", x.submit(), -6);
        check.due("mark(0)", x.mark(0), 0);
        check.due("mark(1)", x.mark(1), -1);
        check.due("unspent(0)", x.unspent(0), false);
        check.due("balance(" + account + ")", x.balance(account), account == 2 ? 6 : 0);
    }

    private static void poolDeposits() {
        NotePool x = new NotePool();
        check.due("pool()", x.pool(), 0);
        for (int count = 1; count <= 16; count++) {
            x.deposit(count % 4, 255, count);
            check.due("pool() of " + count, x.pool(), 255 * count);
        }
        x.deposit(0, 255, 0);
        check.due("pool() after FULL", x.pool(), 4080);
        NotePool y = new NotePool();
        y.deposit(0, 256, 0);
        y.deposit(4, 255, 0);
        y.deposit(0, -1, 0);
        y.deposit(0, 255, 65537);
        check.due("pool() after refusals", y.pool(), 0);
        y.deposit(0, 0, 0);
        check.due("pool() of a note of 0", y.pool(), 0);
    }

    /** A forged spending may take out what was never put in; the difference is less than 0 then. */
    private static void poolWithdrawals() {
        NotePool x = new NotePool();
        Forge.spendEmptyLeaf(x, 0, 0, 0);
        check.due("submit()", x.submit(), 0);
        check.due("pool(), 255 withdrawn out of none", x.pool(), -255);
        x.submit();
        check.due("pool() after SPENT", x.pool(), -255);
        x.deposit(0, 255, 0);
        check.due("pool()", x.pool(), 0);
        x.load(1, 1, 255, 0, 0);
        x.submit();
        check.due("pool() after paying all to another", x.pool(), 0);
        x.load(2, 1, 0, 255, 0);
        x.submit();
        check.due("pool() after withdrawing all", x.pool(), -255);
    }

    private PoolBoundaryTest() {
    }
}
