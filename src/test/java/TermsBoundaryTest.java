import java.util.Arrays;
import java.util.Random;

/** The boundary cases that the section "Terms" names, sentence by sentence. */
public final class TermsBoundaryTest {
    private static final Check check = new Check();
    /** The cells that no condition is about by itself. */
    private static final int[] FREE = {5, 6, 7, 8, 10, 11, 12, 13, 14};

    public static void main(String[] args) {
        numbersAndAccounts();
        treeAndMarks();
        vectorAndConditions();
        check.finish();
    }

    private static void numbersAndAccounts() {
        check.sentence("An object is used for at most 512 calls after it has been made",
                TermsBoundaryTest::lastCalls);
        check.sentence("NUMBERS are 0 .. 65536", TermsBoundaryTest::numbers);
        check.sentence("all sums of them are taken modulo 65537", TermsBoundaryTest::sums);
        check.sentence("all differences of them are taken modulo 65537", TermsBoundaryTest::differences);
        check.sentence("all products of them are taken modulo 65537", TermsBoundaryTest::products);
        check.sentence("x becomes the cube of (x + b + salt); the hash is x + a + b",
                TermsBoundaryTest::hashes);
        check.sentence("x is a at first; four times, for the SALTS 11, 222, 3333 and 44444 in this order",
                TermsBoundaryTest::salts);
        check.sentence("ACCOUNTS 0 .. 3: account k has the SECRET 100 + k", TermsBoundaryTest::secrets);
        check.sentence("and as its KEY the hash of its secret and 0", TermsBoundaryTest::keys);
        check.sentence("its COMMITMENT is the hash of (the hash of its key and its value) and its nonce",
                TermsBoundaryTest::commitments);
        check.sentence("Notes get the PLACES 0, 1, .. 15 one after the other, at most 16",
                TermsBoundaryTest::places);
        check.sentence("The OWNER of a note is the least account whose key it has, if there is one",
                TermsBoundaryTest::owners);
    }

    private static void treeAndMarks() {
        check.sentence("THE TREE has 16 leaves. Above them are 8 nodes, then 4, then 2, then the ROOT",
                TermsBoundaryTest::levelWidths);
        check.sentence("leaf k is the commitment of the note at place k, 0 if there is none",
                TermsBoundaryTest::leaves);
        check.sentence("each is the hash of the left and the right one of the two that are under it",
                TermsBoundaryTest::nodes);
        check.sentence("The RECENT roots are the present root and those there were before the latest, the "
                + "second latest and the third latest note was made", TermsBoundaryTest::recentRoots);
        check.sentence("the root of the tree without notes is one of them as long as fewer than four notes "
                + "were made", TermsBoundaryTest::rootWithoutNotes);
        check.sentence("a root is recent by its number, though several notes left it as it was",
                TermsBoundaryTest::unchangedRoots);
        check.sentence("The MARK of a note with an owner is the hash of the secret of its owner and its "
                + "commitment", TermsBoundaryTest::marks);
        check.sentence("Marks that were USED are kept", TermsBoundaryTest::keptMarks);
    }

    private static void vectorAndConditions() {
        check.sentence("THE VECTOR has 125 cells", TermsBoundaryTest::cellCount);
        check.sentence("cell 0 always holds 1", TermsBoundaryTest::cellZero);
        check.sentence("The others: 1 root, 2 mark, 3 new commitment, 4 withdrawn; 5 secret, ..",
                TermsBoundaryTest::cellNames);
        check.sentence("A block j (0 .. 9) has two INPUTS a and b, and its cells e0 .. e8 are the cells "
                + "35 + 9j .. 43 + 9j", TermsBoundaryTest::blockInputs);
        check.sentence("Its NINE CONDITIONS, in this order", TermsBoundaryTest::nineConditions);
        check.sentence("THE CONDITIONS are numbered 0 .. 114", TermsBoundaryTest::conditionNumbers);
        check.sentence("14 .. 22, 23 .. 31, 32 .. 40: the nine of block 0, of block 1, of block 2. 41 + 11i .. "
                + "51 + 11i, for the levels i. 85 .. 93, 94 .. 102, 103 .. 111: the nine of block 7, of block 8, of "
                + "block 9", TermsBoundaryTest::conditionsOneByOne);
        check.sentence("0 .. 3: turn i * turn i = turn i", TermsBoundaryTest::turnConditions);
        check.sentence("4 .. 11: bit k * bit k = bit k", TermsBoundaryTest::bitConditions);
        check.sentence("12: the sum of 2^k * bit k, over k = 0 .. 7, = amount",
                TermsBoundaryTest::amountCondition);
        check.sentence("13: amount + withdrawn = value", TermsBoundaryTest::valueCondition);
        check.sentence("left i = n + turn i * (sibling i - n); right i = n + sibling i - left i",
                TermsBoundaryTest::levelConditions);
        check.sentence("112: root = result of block 6. 113: mark = result of block 7. 114: new commitment = "
                + "result of block 9", TermsBoundaryTest::resultConditions);
        check.sentence("The vector MEETS the conditions if all of them hold", TermsBoundaryTest::meets);
    }

    /** The 512th call is answered like any other. */
    private static void lastCalls() {
        NotePool x = Pools.withDeposits(4);
        for (int call = 8; call < 509; call++) {
            x.set(1 + call % 124, call);
        }
        check.due("call 510, load", x.load(3, 0, 13, 0, 1), 1);
        check.due("call 511, fault", x.fault(), -1);
        check.due("call 512, submit", x.submit(), 4);
    }

    private static void numbers() {
        NotePool x = new NotePool();
        for (int number : new int[] {0, 65536}) {
            check.due("hash(" + number + ", 0)", x.hash(number, 0) >= 0, true);
            check.due("hash(0, " + number + ")", x.hash(0, number) >= 0, true);
            check.due("set(5, " + number + ")", x.set(5, number), true);
            check.due("deposit(0, 1, " + number + ")", x.deposit(0, 1, number) >= 0, true);
            check.due("load(0, 0, 1, 0, " + number + ")", x.load(0, 0, 1, 0, number), 1);
        }
        for (int number : new int[] {-1, 65537}) {
            check.due("hash(" + number + ", 0)", x.hash(number, 0), -1);
            check.due("hash(0, " + number + ")", x.hash(0, number), -1);
            check.due("set(5, " + number + ")", x.set(5, number), false);
            check.due("deposit(0, 1, " + number + ")", x.deposit(0, 1, number), -3);
            check.due("load(0, 0, 1, 0, " + number + ")", x.load(0, 0, 1, 0, number), -3);
        }
    }

    private static void sums() {
        NotePool x = new NotePool();
        x.deposit(0, 0, 0);
        x.load(0, 1, 1, 0, 0);
        check.due("fault(), 1 + 0 for 0", x.fault(), 13);
        x.set(4, 65535);
        check.due("fault(), 1 + 65535 for 0", x.fault(), 13);
        x.set(4, 65536);
        check.due("fault(), 1 + 65536 for 0", x.fault(), -1);
        NotePool y = new NotePool();
        y.set(5, 65526);
        check.due("fault(), t0 = 65526 + 0 + 11 is 0, as e0 and e1 are", y.fault(), 16);
    }

    /** One of two siblings is the less, and which one is, is left and right in turn. */
    private static void differences() {
        boolean[] seen = new boolean[2];
        for (int nonce = 0; nonce < 12; nonce++) {
            NotePool x = new NotePool();
            x.deposit(0, 9, nonce);
            x.deposit(1, 9, nonce);
            seen[x.commitment(0) < x.commitment(1) ? 0 : 1] = true;
            for (int place = 0; place < 2; place++) {
                check.due("load(" + place + ", 0, 9, 0, 0)", x.load(place, 0, 9, 0, 0), 1);
                check.due("left 0", x.get(19), x.commitment(0));
                check.due("right 0", x.get(23), x.commitment(1));
                check.due("left 1, of the node above", x.get(20), x.node(1, 0));
                check.due("right 1, of no notes", x.get(24), 35311);
            }
        }
        check.due("both orders were seen", seen[0] && seen[1], true);
    }

    /** The first product of block 0 is (secret + 11) * (secret + 11), the second that * (secret + 11). */
    private static void products() {
        int[][] secretAndProducts = {{65525, 1, 65536}, {245, 65536, 65281}, {46330, 37402, 54580},
            {65526, 0, 0}, {65527, 1, 1}, {65524, 4, 65529}};
        for (int[] row : secretAndProducts) {
            NotePool x = new NotePool();
            x.set(5, row[0]);
            x.set(35, row[1]);
            x.set(36, row[2]);
            check.due("fault() with the secret " + row[0], x.fault(), 16);
            x.set(36, Reference.mod(row[2] + 1));
            check.due("fault() with e1 one more", x.fault(), 15);
            x.set(35, Reference.mod(row[1] + 1));
            check.due("fault() with e0 one more", x.fault(), 14);
        }
    }

    private static void hashes() {
        NotePool x = new NotePool();
        int[][] due = {{0, 0, 35311}, {65526, 0, 51142}, {65525, 0, 65326}, {0, 65526, 25570},
            {0, 65536, 22152}, {65536, 0, 40197}, {65536, 65536, 64295}, {1, 2, 37585}, {2, 1, 38629},
            {32768, 32769, 50405}};
        for (int[] row : due) {
            check.due("hash(" + row[0] + ", " + row[1] + ")", x.hash(row[0], row[1]), row[2]);
        }
    }

    /** The numbers were worked out by hand: the cubes of a + 0 + 11, and so on, for a = 100. */
    private static void salts() {
        int[] cubes = {56891, 42252, 19697, 24808};
        NotePool x = new NotePool();
        x.deposit(0, 7, 0);
        x.load(0, 0, 7, 0, 0);
        for (int i = 0; i < 4; i++) {
            check.due("x after salt " + i, x.get(36 + 2 * i), cubes[i]);
        }
        check.due("hash(100, 0)", x.hash(100, 0), 24808 + 100);
        check.due("hash(991, 255)", x.hash(991, 255), 24347 + 991 + 255);
        check.due("hash(65536, 65536)", x.hash(65536, 65536), 64297 - 1 - 1);
    }

    private static void secrets() {
        NotePool x = new NotePool();
        for (int account = 0; account < 4; account++) {
            x.deposit(account, 7, account);
            check.due("load(" + account + ", 0, 7, 0, 0)", x.load(account, 0, 7, 0, 0), 1);
            check.due("the secret of account " + account, x.get(5), 100 + account);
        }
    }

    private static void keys() {
        NotePool x = new NotePool();
        x.deposit(0, 7, 0);
        for (int account = 0; account < 4; account++) {
            check.due("hash(" + (100 + account) + ", 0)", x.hash(100 + account, 0), Pools.KEYS[account]);
            x.load(0, account, 7, 0, 0);
            check.due("the key of account " + account, x.get(8), Pools.KEYS[account]);
        }
    }

    private static void commitments() {
        for (int value : new int[] {0, 1, 254, 255}) {
            for (int nonce : new int[] {0, 1, 65535, 65536}) {
                NotePool x = new NotePool();
                x.deposit(3, value, nonce);
                check.due("commitment of " + value + " and " + nonce, x.commitment(0),
                        x.hash(x.hash(44484, value), nonce));
            }
        }
        NotePool x = new NotePool();
        x.deposit(0, 100, 5);
        check.due("commitment(0) after deposit(0, 100, 5)", x.commitment(0), 60170);
        x.deposit(0, 0, 823);
        check.due("commitment(1) after deposit(0, 0, 823)", x.commitment(1), 0);
        check.due("notes() with a commitment of 0", x.notes(), 2);
    }

    private static void places() {
        NotePool x = new NotePool();
        check.due("deposit, place 0", x.deposit(0, 9, 0), 0);
        for (int place = 1; place < 16; place++) {
            boolean bySpending = place % 3 == 2;
            if (bySpending) {
                x.load(place - 1, 1, 9, 0, place);
            }
            check.due("place " + place, bySpending ? x.submit() : x.deposit(2, 9, place), place);
            check.due("notes()", x.notes(), place + 1);
        }
        check.due("a 17th by deposit", x.deposit(2, 9, 9), -7);
        x.load(15, 1, 9, 0, 0);
        check.due("a 17th by submit", x.submit(), -7);
        check.due("notes()", x.notes(), 16);
    }

    /** The keys of the four accounts differ, so that no note has two owners to choose from. */
    private static void owners() {
        for (int account = 0; account < 4; account++) {
            for (int offset = -1; offset <= 1; offset++) {
                NotePool x = new NotePool();
                x.deposit(0, 40, 8);
                Pools.payToKey(x, Pools.KEYS[account] + offset);
                check.due("submit()", x.submit(), 1);
                check.due("owner with key " + account + " and " + offset, x.owner(1), offset == 0 ? account : -1);
            }
        }
        for (int key : new int[] {0, 1, 65536, 100, 103}) {
            NotePool x = new NotePool();
            x.deposit(0, 40, 8);
            Pools.payToKey(x, key);
            check.due("submit()", x.submit(), 1);
            check.due("owner with the key " + key, x.owner(1), -1);
        }
    }

    private static void levelWidths() {
        int[] widths = {16, 8, 4, 2, 1};
        for (int level = -1; level <= 5; level++) {
            NotePool x = Pools.full();
            int there = 0;
            for (int number = -20; number < 40; number++) {
                there += x.node(level, number) >= 0 ? 1 : 0;
            }
            check.due("nodes of level " + level, there, level < 0 || level > 4 ? 0 : widths[level]);
        }
    }

    private static void leaves() {
        for (int count : new int[] {0, 1, 7, 8, 15, 16}) {
            NotePool x = Pools.withDeposits(count);
            for (int leaf = 0; leaf < 16; leaf++) {
                int key = Pools.KEYS[leaf % 4];
                int commitment = Reference.hashOf(Reference.hashOf(key, 10 + leaf), 1000 + leaf);
                check.due("leaf " + leaf + " of " + count, x.node(0, leaf), leaf < count ? commitment : 0);
            }
        }
    }

    private static void nodes() {
        int[] empty = {0, 35311, 17356, 355, 23901};
        for (int level = 0; level <= 4; level++) {
            for (int number = 0; number < 16 >> level; number++) {
                check.due("node(" + level + ", " + number + ") of no notes",
                        new NotePool().node(level, number), empty[level]);
            }
        }
        for (int count : new int[] {1, 2, 9, 15, 16}) {
            NotePool x = Pools.withDeposits(count);
            for (int level = 1; level <= 4; level++) {
                for (int j = 0; j < 16 >> level; j++) {
                    check.due("node(" + level + ", " + j + ") of " + count, x.node(level, j),
                            Reference.hashOf(x.node(level - 1, 2 * j), x.node(level - 1, 2 * j + 1)));
                }
            }
        }
    }

    /** A vector with the root of so many notes is handed in when there are later ones. */
    private static void recentRoots() {
        for (int before = 1; before <= 12; before++) {
            for (int later = 0; later <= 4 && before + later < 16; later++) {
                NotePool x = Pools.withDeposits(before);
                x.load(before - 1, 1, before + 9, 0, 3);
                Pools.deposit(x, later);
                check.due("submit(), the root of " + before + " and " + later + " notes later", x.submit(),
                        later <= 3 ? before + later : -5);
            }
        }
    }

    private static void rootWithoutNotes() {
        for (int count = 0; count <= 5; count++) {
            NotePool x = new NotePool();
            Forge.spendEmptyLeaf(x, 0, 255, 0);
            check.due("the root of no notes", x.get(1), Pools.EMPTY_ROOT);
            Pools.deposit(x, count);
            for (int k = 0; k < 4; k++) {
                check.due("root(" + k + ") of " + count + " is that of no notes",
                        x.root(k) == Pools.EMPTY_ROOT, k == count);
            }
            check.due("submit() after " + count + " notes", x.submit(), count < 4 ? count : -5);
        }
    }

    /** The notes of account 0 with the value 0 and the nonce 823 have the commitment 0. */
    private static void unchangedRoots() {
        NotePool x = new NotePool();
        for (int count = 1; count <= 6; count++) {
            x.deposit(0, 0, 823);
            for (int k = 0; k < 4; k++) {
                check.due("root(" + k + ") of " + count, x.root(k), k <= count ? Pools.EMPTY_ROOT : -1);
            }
        }
        Forge.spendEmptyLeaf(x, 9, 255, 0);
        check.due("submit()", x.submit(), 6);
    }

    private static void marks() {
        for (int account = 0; account < 4; account++) {
            NotePool x = new NotePool();
            x.deposit(account, 200, 65536);
            x.load(0, 3 - account, 200, 0, 0);
            int mark = Reference.hashOf(100 + account, x.commitment(0));
            check.due("the mark in the vector", x.get(2), mark);
            check.due("submit()", x.submit(), 1);
            check.due("mark(0)", x.mark(0), mark);
            check.due("unspent(0)", x.unspent(0), false);
        }
    }

    private static void keptMarks() {
        NotePool x = new NotePool();
        x.deposit(0, 40, 8);
        x.load(0, 1, 40, 0, 1);
        int mark = x.get(2);
        x.submit();
        for (int count = 2; count <= 16; count++) {
            x.load(0, 1, 40, 0, 2);
            check.due("submit() with " + count + " notes", x.submit(), -6);
            check.due("mark(0)", x.mark(0), mark);
            check.due("unspent(0)", x.unspent(0), false);
            Pools.deposit(x, 1);
        }
    }

    private static void cellCount() {
        NotePool x = new NotePool();
        check.due("set(124, 9)", x.set(124, 9), true);
        check.due("get(124)", x.get(124), 9);
        check.due("set(125, 9)", x.set(125, 9), false);
        check.due("get(125)", x.get(125), -1);
    }

    private static void cellZero() {
        NotePool x = new NotePool();
        check.due("get(0), new", x.get(0), 1);
        for (int number : new int[] {0, 1, 2, 65536, -1, 65537}) {
            check.due("set(0, " + number + ")", x.set(0, number), false);
            check.due("get(0)", x.get(0), 1);
        }
        x.deposit(0, 9, 0);
        x.load(0, 1, 9, 0, 0);
        check.due("get(0) after load", x.get(0), 1);
        x.submit();
        check.due("get(0) after submit", x.get(0), 1);
    }

    private static void cellNames() {
        NotePool x = Pools.withDeposits(6);
        check.due("load(5, 3, 13, 2, 65536)", x.load(5, 3, 13, 2, 65536), 1);
        int commitment = x.commitment(5);
        int newCommitment = x.hash(x.hash(44484, 13), 65536);
        int[] first = {1, x.root(0), x.hash(101, commitment), newCommitment, 2, 101, 15, 1005, 44484, 13, 65536,
            x.node(0, 4), x.node(1, 3), x.node(2, 0), x.node(3, 1), 1, 0, 1, 0,
            x.node(0, 4), x.node(1, 2), x.node(2, 0), x.node(3, 0),
            commitment, x.node(1, 3), x.node(2, 1), x.node(3, 1), 1, 0, 1, 1, 0, 0, 0, 0};
        for (int cell = 0; cell < 35; cell++) {
            check.due("get(" + cell + ")", x.get(cell), first[cell]);
        }
        int[] results = {991, x.hash(991, 15), commitment, x.node(1, 2), x.node(2, 1), x.node(3, 0), x.root(0),
            x.hash(101, commitment), x.hash(44484, 13), newCommitment};
        for (int block = 0; block < 10; block++) {
            check.due("the result of block " + block, x.get(43 + 9 * block), results[block]);
        }
    }

    /** Whatever the free cells hold: settled by the document's formulas, the conditions hold. */
    private static void blockInputs() {
        Random random = new Random(7);
        for (int run = 0; run < 60; run++) {
            int[] cells = new int[125];
            cells[0] = 1;
            for (int cell = 4; cell < 15; cell++) {
                cells[cell] = run < 2 ? 65536 * run : random.nextInt(65537);
            }
            for (int i = 0; i < 4; i++) {
                cells[15 + i] = random.nextInt(2);
            }
            Forge.amount(cells, random.nextInt(256));
            cells[6] = Reference.mod(cells[9] + cells[4]);
            NotePool x = new NotePool();
            Forge.put(x, cells);
            check.due("fault() of run " + run, x.fault(), -1);
            for (int block = 0; block < 10; block++) {
                int result = 43 + 9 * block;
                x.set(result, Reference.mod(cells[result] + 1));
                check.due("fault() with the result of block " + block + " one more", x.fault(),
                        conditionOf(result));
                x.set(result, cells[result]);
            }
        }
    }

    /** The one condition that says what this cell holds, counted as the document counts them. */
    private static int conditionOf(int cell) {
        if (cell >= 98) {
            return 85 + cell - 98;
        }
        if (cell >= 62) {
            return 41 + 11 * ((cell - 62) / 9) + 2 + (cell - 62) % 9;
        }
        if (cell >= 35) {
            return 14 + cell - 35;
        }
        if (cell >= 27) {
            return 4 + cell - 27;
        }
        if (cell >= 23) {
            return 42 + 11 * (cell - 23);
        }
        if (cell >= 19) {
            return 41 + 11 * (cell - 19);
        }
        if (cell >= 15) {
            return cell - 15;
        }
        return cell == 9 ? 12 : cell == 4 ? 13 : 111 + cell;
    }

    /** Worked out by hand for block 0 of the secret 100, and block 8 of the key 991 and the amount 255. */
    private static void nineConditions() {
        int[][] due = {{12321, 56891, 52742, 42252, 10566, 19697, 48243, 24808, 24908},
            {7161, 22808, 3624, 38721, 39400, 41005, 50804, 24347, 25593}};
        int[] firstCell = {35, 107};
        int[] firstCondition = {14, 94};
        NotePool x = new NotePool();
        x.deposit(0, 255, 0);
        x.load(0, 1, 255, 0, 0);
        check.due("fault()", x.fault(), -1);
        for (int block = 0; block < 2; block++) {
            for (int e = 8; e >= 0; e--) {
                check.due("e" + e, x.get(firstCell[block] + e), due[block][e]);
                x.set(firstCell[block] + e, Reference.mod(due[block][e] + 1));
                check.due("fault() with e" + e + " one more", x.fault(), firstCondition[block] + e);
            }
            for (int e = 0; e < 9; e++) {
                x.set(firstCell[block] + e, due[block][e]);
            }
            check.due("fault() when all is put right", x.fault(), -1);
        }
    }

    /** All 115 are broken at first; each time the first one is mended, the next is the first. */
    private static void conditionsOneByOne() {
        NotePool x = Pools.withDeposits(6);
        x.load(4, 2, 9, 5, 77);
        int[] good = Forge.cellsOf(x);
        int[] cellOf = new int[115];
        for (int cell = 124; cell >= 1; cell--) {
            if (Arrays.binarySearch(FREE, cell) < 0) {
                cellOf[conditionOf(cell)] = cell;
                x.set(cell, Reference.mod(good[cell] + 2 + 7 * cell));
            }
        }
        for (int condition = 0; condition < 115; condition++) {
            check.due("fault() when all before " + condition + " were mended", x.fault(), condition);
            x.set(cellOf[condition], good[cellOf[condition]]);
        }
        check.due("fault() when all were mended", x.fault(), -1);
    }

    private static void conditionNumbers() {
        boolean[] seen = new boolean[115];
        for (int cell = 1; cell < 125; cell++) {
            if (Arrays.binarySearch(FREE, cell) >= 0) {
                continue;
            }
            NotePool x = Pools.withDeposits(6);
            x.load(4, 2, 9, 5, 77);
            check.due("fault()", x.fault(), -1);
            x.set(cell, Reference.mod(x.get(cell) + 2));
            check.due("fault() with 2 more in cell " + cell, x.fault(), conditionOf(cell));
            check.due("submit()", x.submit(), -3);
            seen[conditionOf(cell)] = true;
        }
        for (int condition = 0; condition < 115; condition++) {
            check.due("condition " + condition + " was broken", seen[condition], true);
        }
    }

    private static void turnConditions() {
        for (int i = 0; i < 4; i++) {
            zeroOrOne(15 + i, i);
        }
    }

    private static void bitConditions() {
        for (int k = 0; k < 8; k++) {
            zeroOrOne(27 + k, 4 + k);
        }
    }

    /** 65536 is -1 and 256 is a root of -1: their squares are not they, however they are taken. */
    private static void zeroOrOne(int cell, int condition) {
        NotePool x = new NotePool();
        for (int number : new int[] {2, 255, 256, 257, 32768, 32769, 65281, 65535, 65536}) {
            x.set(cell, number);
            check.due("fault() with " + number + " in cell " + cell, x.fault(), condition);
        }
        for (int number : new int[] {0, 1}) {
            x.set(cell, number);
            int later = cell >= 27 && number == 1 ? 12 : 14;
            check.due("fault() with " + number + " in cell " + cell, x.fault(), later);
        }
    }

    private static void amountCondition() {
        for (int k = 0; k <= 8; k++) {
            int amount = k == 8 ? 255 : 1 << k;
            NotePool x = new NotePool();
            for (int bit = 0; bit < 8; bit++) {
                x.set(27 + bit, k == 8 || bit == k ? 1 : 0);
            }
            for (int offset = -1; offset <= 1; offset++) {
                x.set(9, amount + offset);
                x.set(6, amount + offset);
                check.due("fault() for " + amount + " and " + offset, x.fault(), offset == 0 ? 14 : 12);
            }
            x.set(9, amount + 256);
            check.due("fault() for 256 more", x.fault(), 12);
        }
        NotePool x = new NotePool();
        x.set(9, 256);
        check.due("fault() for 256 without bits", x.fault(), 12);
    }

    private static void valueCondition() {
        int[][] amountWithdrawnValue = {{0, 0, 0}, {255, 0, 255}, {0, 255, 255}, {255, 255, 510}, {1, 65536, 0},
            {255, 65536, 254}, {255, 65282, 0}, {255, 65281, 65536}};
        for (int[] row : amountWithdrawnValue) {
            NotePool x = new NotePool();
            for (int k = 0; k < 8; k++) {
                x.set(27 + k, row[0] >> k & 1);
            }
            x.set(9, row[0]);
            x.set(4, row[1]);
            x.set(6, row[2]);
            check.due("fault() for " + row[0] + " + " + row[1] + " = " + row[2], x.fault(), 14);
            x.set(6, Reference.mod(row[2] + 1));
            check.due("fault() with the value one more", x.fault(), 13);
            x.set(6, Reference.mod(row[2] - 1));
            check.due("fault() with the value one less", x.fault(), 13);
        }
    }

    private static void levelConditions() {
        for (int i = 0; i < 4; i++) {
            for (int turn = 0; turn < 2; turn++) {
                NotePool x = Pools.full();
                int place = turn << i;
                x.load(place, 0, 0, 10 + place, 0);
                int n = x.node(i, place >> i);
                int sibling = x.node(i, place >> i ^ 1);
                check.due("left " + i, x.get(19 + i), turn == 0 ? n : sibling);
                check.due("right " + i, x.get(23 + i), turn == 0 ? sibling : n);
                x.set(19 + i, x.get(23 + i));
                check.due("fault() with the right one on the left", x.fault(), 41 + 11 * i);
                x.set(19 + i, turn == 0 ? n : sibling);
                x.set(23 + i, x.get(19 + i));
                check.due("fault() with the left one on the right", x.fault(), 42 + 11 * i);
                x.set(23 + i, turn == 0 ? sibling : n);
                x.set(15 + i, 1 - turn);
                check.due("fault() with the other turn", x.fault(), 41 + 11 * i);
                x.set(15 + i, turn);
                x.set(11 + i, Reference.mod(sibling + 1));
                check.due("fault() with another sibling", x.fault(), 42 - turn + 11 * i);
            }
        }
    }

    private static void resultConditions() {
        for (int cell = 1; cell <= 3; cell++) {
            for (int number : new int[] {0, 1, 65536}) {
                NotePool x = Pools.withDeposits(3);
                x.load(2, 0, 6, 6, 0);
                check.due("fault()", x.fault(), -1);
                x.set(cell, number);
                check.due("fault() with " + number + " in cell " + cell, x.fault(), 111 + cell);
            }
        }
    }

    private static void meets() {
        NotePool x = Pools.withDeposits(2);
        check.due("load that fits", x.load(1, 0, 6, 5, 0), 1);
        check.due("submit() when all hold", x.submit(), 2);
        for (int condition : new int[] {0, 114}) {
            NotePool y = Pools.withDeposits(2);
            y.load(1, 0, 6, 5, 0);
            int cell = condition == 0 ? 15 : 3;
            y.set(cell, Reference.mod(y.get(cell) + 1));
            check.due("fault()", y.fault(), condition);
            check.due("submit() when only " + condition + " does not hold", y.submit(), -3);
        }
    }

    private TermsBoundaryTest() {
    }
}
