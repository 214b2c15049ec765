import java.util.TreeSet;

/** Each promise of the document by itself, and how it works together with the others. */
public final class PromisesTest {
    private static final Check check = new Check();
    private static final int[] FAR = Pools.FAR;

    public static void main(String[] args) {
        constants();
        promise1NewObject();
        promise2Hash();
        promise3Deposit();
        promise4Load();
        promise4LoadRefuses();
        promise5SetAndPromise6Get();
        promise7Fault();
        promise7FaultNamesTheLeast();
        promise8Submit();
        promise8SubmitRefusesInOrder();
        promise8RecentRoots();
        promise8Forgeries();
        promises9To12Notes();
        promises13And14Unspent();
        promise15Root();
        promise16Node();
        promises17And18Marks();
        promise19Pool();
        check.finish();
    }

    private static void constants() {
        check.due("NONE", NotePool.NONE, -1);
        check.due("UNKNOWN", NotePool.UNKNOWN, -2);
        check.due("WRONG", NotePool.WRONG, -3);
        check.due("LARGE", NotePool.LARGE, -4);
        check.due("STALE", NotePool.STALE, -5);
        check.due("SPENT", NotePool.SPENT, -6);
        check.due("FULL", NotePool.FULL, -7);
    }

    private static void promise1NewObject() {
        NotePool x = new NotePool();
        check.due("new: notes()", x.notes(), 0);
        check.due("new: used()", x.used(), 0);
        check.due("new: pool()", x.pool(), 0);
        check.due("new: get(0)", x.get(0), 1);
        for (int cell = 1; cell < 125; cell++) {
            check.due("new: get(" + cell + ")", x.get(cell), 0);
        }
        for (int account = 0; account < 4; account++) {
            check.due("new: balance(" + account + ")", x.balance(account), 0);
        }
        check.due("new: commitment(0)", x.commitment(0), -2);
        check.due("new: mark(0)", x.mark(0), -1);
        NotePool other = new NotePool();
        other.deposit(0, 1, 1);
        other.set(9, 9);
        check.due("objects share nothing: notes()", x.notes(), 0);
        check.due("objects share nothing: get(9)", x.get(9), 0);
    }

    private static void promise2Hash() {
        NotePool x = new NotePool();
        check.due("hash(1, 2)", x.hash(1, 2), 37585);
        check.due("hash(65536, 65536)", x.hash(65536, 65536), 64295);
        int[] edges = {0, 1, 255, 256, 32768, 46341, 65535, 65536};
        for (int a : edges) {
            for (int b : edges) {
                check.due("hash(" + a + ", " + b + ")", x.hash(a, b), Reference.hashOf(a, b));
            }
        }
        check.due("hash(65537, 0)", x.hash(65537, 0), -1);
        check.due("hash(0, 65537)", x.hash(0, 65537), -1);
        for (int far : FAR) {
            check.due("hash(" + far + ", 0)", x.hash(far, 0), -1);
            check.due("hash(0, " + far + ")", x.hash(0, far), -1);
        }
    }

    private static void promise3Deposit() {
        NotePool x = new NotePool();
        check.due("deposit(4, 256, 0)", x.deposit(4, 256, 0), -2);
        check.due("deposit(4, 0, 65537)", x.deposit(4, 0, 65537), -2);
        check.due("deposit(0, 256, 0)", x.deposit(0, 256, 0), -3);
        check.due("deposit(0, 0, 65537)", x.deposit(0, 0, 65537), -3);
        for (int far : FAR) {
            check.due("deposit(" + far + ", 0, 0)", x.deposit(far, 0, 0), -2);
            check.due("deposit(0, " + far + ", 0)", x.deposit(0, far, 0), -3);
            check.due("deposit(0, 0, " + far + ")", x.deposit(0, 0, far), -3);
        }
        check.due("notes() after refusals", x.notes(), 0);
        for (int place = 0; place < 16; place++) {
            int value = place % 2 == 0 ? 255 : 0;
            int nonce = place % 3 == 0 ? 65536 : 0;
            check.due("deposit " + place, x.deposit(place % 4, value, nonce), place);
            int key = Reference.hashOf(100 + place % 4, 0);
            check.due("commitment(" + place + ")", x.commitment(place),
                    new Reference.Note(key, value, nonce).commitment());
        }
        check.due("deposit when full", x.deposit(0, 1, 1), -7);
        check.due("deposit of no account when full", x.deposit(4, 1, 1), -2);
        check.due("deposit of a wrong value when full", x.deposit(0, 256, 1), -3);
        check.due("notes() when full", x.notes(), 16);
    }

    private static void promise4Load() {
        int[][] loads = {{5, 3, 45, 5, 65536}, {6, 0, 255, 255, 0}, {0, 1, 0, 0, 7}, {3, 2, 30, 1, 8}};
        int[] due = {1, 0, 1, 0};
        for (int i = 0; i < loads.length; i++) {
            NotePool x = new NotePool();
            Reference r = new Reference();
            for (int k = 0; k < 7; k++) {
                x.deposit(k % 4, 10 * k, 1000 + k);
                r.deposit(k % 4, 10 * k, 1000 + k);
            }
            int[] l = loads[i];
            check.due("load " + i, x.load(l[0], l[1], l[2], l[3], l[4]), due[i]);
            r.load(l[0], l[1], l[2], l[3], l[4]);
            sameCells("load " + i, x, r);
            check.due("fault() after load " + i, x.fault(), due[i] == 1 ? -1 : 13);
        }
        loadsOfSpentAndLaterTrees();
    }

    private static void loadsOfSpentAndLaterTrees() {
        NotePool x = new NotePool();
        x.deposit(1, 20, 4);
        x.load(0, 2, 15, 5, 6);
        int firstRoot = x.get(1);
        check.due("load() puts the present root", firstRoot, x.root(0));
        check.due("submit()", x.submit(), 1);
        check.due("load of a spent note", x.load(0, 2, 15, 5, 6), 1);
        check.due("its root is the later one", x.get(1), x.root(0));
        check.due("its sibling 0 is the new note", x.get(11), x.commitment(1));
        check.due("its secret", x.get(5), 101);
        check.due("load overwrites what was set", x.set(35, 1) && x.load(1, 0, 15, 0, 1) == 1, true);
        check.due("turn 0 of place 1", x.get(15), 1);
        check.due("get(0) after load", x.get(0), 1);
    }

    private static void promise4LoadRefuses() {
        check.due("load without notes", new NotePool().load(0, 0, 0, 0, 0), -2);
        NotePool x = Pools.withOwnerless();
        check.due("the made note has no owner", x.owner(1), -1);
        check.due("load of no place", x.load(2, 0, 0, 0, 0), -2);
        check.due("load of no place, all wrong", x.load(2, 4, 256, 256, 65537), -2);
        check.due("load for no payee", x.load(0, 4, 0, 0, 0), -2);
        check.due("load without owner for no payee", x.load(1, 4, 256, 0, 0), -2);
        check.due("load without owner", x.load(1, 0, 0, 0, 0), -1);
        check.due("load without owner, wrong amount", x.load(1, 0, 256, 256, 65537), -1);
        check.due("load, amount 256", x.load(0, 0, 256, 0, 0), -3);
        check.due("load, withdrawn 256", x.load(0, 0, 0, 256, 0), -3);
        check.due("load, nonce 65537", x.load(0, 0, 0, 0, 65537), -3);
        for (int far : FAR) {
            check.due("load(" + far + ", ..)", x.load(far, 0, 0, 0, 0), -2);
            check.due("load, payee " + far, x.load(0, far, 0, 0, 0), -2);
            check.due("load, amount " + far, x.load(0, 0, far, 0, 0), -3);
            check.due("load, withdrawn " + far, x.load(0, 0, 0, far, 0), -3);
            check.due("load, nonce " + far, x.load(0, 0, 0, 0, far), -3);
        }
    }

    private static void promise5SetAndPromise6Get() {
        NotePool x = new NotePool();
        for (int cell = 1; cell < 125; cell++) {
            check.due("set(" + cell + ", 65536 - it)", x.set(cell, 65536 - cell), true);
        }
        for (int cell = 1; cell < 125; cell++) {
            check.due("get(" + cell + ")", x.get(cell), 65536 - cell);
        }
        check.due("set(7, 65536)", x.set(7, 65536), true);
        check.due("get(7)", x.get(7), 65536);
        check.due("set(7, 0)", x.set(7, 0), true);
        check.due("get(7)", x.get(7), 0);
        check.due("set(0, 1)", x.set(0, 1), false);
        check.due("set(0, 5)", x.set(0, 5), false);
        check.due("get(0)", x.get(0), 1);
        check.due("set(125, 1)", x.set(125, 1), false);
        check.due("get(125)", x.get(125), -1);
        check.due("set(8, 65537)", x.set(8, 65537), false);
        for (int far : FAR) {
            check.due("set(" + far + ", 1)", x.set(far, 1), false);
            check.due("set(8, " + far + ")", x.set(8, far), false);
            check.due("get(" + far + ")", x.get(far), -1);
        }
        check.due("get(8) after refusals", x.get(8), 65536 - 8);
    }

    private static void promise7Fault() {
        check.due("fault() of a new object", new NotePool().fault(), 14);
        for (int cell = 1; cell < 125; cell++) {
            NotePool x = new NotePool();
            Reference r = new Reference();
            for (int k = 0; k < 6; k++) {
                x.deposit(k % 4, 30 + k, 70 * k);
                r.deposit(k % 4, 30 + k, 70 * k);
            }
            check.due("load", x.load(5, 2, 21, 14, 500), r.load(5, 2, 21, 14, 500));
            check.due("fault() of a good vector", x.fault(), -1);
            int good = x.get(cell);
            for (int number : new int[] {good + 1, 0, 1, 2, 65536 - good, 65536}) {
                x.set(cell, number);
                r.set(cell, number);
                check.due("fault() with " + number + " in cell " + cell, x.fault(), r.fault());
            }
            x.set(cell, good);
            check.due("fault() when put right again", x.fault(), -1);
        }
    }

    /** Every condition that one cell can break by itself, counted from the document's list. */
    private static void promise7FaultNamesTheLeast() {
        NotePool x = new NotePool();
        x.deposit(0, 200, 1);
        x.load(0, 1, 150, 50, 2);
        int[][] cellAndFault = {{15, 0}, {16, 1}, {17, 2}, {18, 3}, {27, 4}, {34, 11}, {9, 12}, {4, 13},
            {6, 13}, {5, 14}, {35, 14}, {43, 22}, {44, 23}, {52, 31}, {7, 32}, {53, 32}, {61, 40},
            {19, 41}, {11, 42}, {23, 42}, {62, 43}, {70, 51}, {20, 52}, {24, 53}, {71, 54}, {79, 62},
            {21, 63}, {25, 64}, {80, 65}, {88, 73}, {22, 74}, {26, 75}, {89, 76}, {97, 84}, {98, 85},
            {106, 93}, {8, 94}, {107, 94}, {115, 102}, {10, 103}, {116, 103}, {124, 111}, {1, 112},
            {2, 113}, {3, 114}};
        for (int[] pair : cellAndFault) {
            int good = x.get(pair[0]);
            x.set(pair[0], Reference.mod(good + 2));
            check.due("fault() with cell " + pair[0] + " spoilt", x.fault(), pair[1]);
            x.set(3, Reference.mod(x.get(3) + 1));
            check.due("fault() with cell 3 spoilt too", x.fault(), Math.min(pair[1], 114));
            x.set(3, pair[0] == 3 ? good : Reference.mod(x.get(3) - 1));
            x.set(pair[0], good);
        }
        check.due("fault() when all is right again", x.fault(), -1);
    }

    private static void promise8Submit() {
        NotePool x = new NotePool();
        check.due("submit() of a new object", x.submit(), -3);
        x.deposit(0, 100, 5);
        x.load(0, 1, 60, 40, 9);
        int[] before = Forge.cellsOf(x);
        check.due("submit()", x.submit(), 1);
        for (int cell = 0; cell < 125; cell++) {
            check.due("the vector stays: get(" + cell + ")", x.get(cell), before[cell]);
        }
        check.due("commitment(1)", x.commitment(1), before[3]);
        check.due("owner(1)", x.owner(1), 1);
        check.due("value(1)", x.value(1), 60);
        check.due("mark(0)", x.mark(0), before[2]);
        check.due("pool()", x.pool(), 60);
        check.due("submit() again", x.submit(), -6);
        check.due("the new note can be spent", x.load(1, 1, 0, 60, 9), 1);
        check.due("submit()", x.submit(), 2);
        check.due("pool()", x.pool(), 0);
    }

    private static void promise8SubmitRefusesInOrder() {
        NotePool x = new NotePool();
        x.deposit(2, 255, 1);
        x.load(0, 3, 0, 255, 1);
        check.due("withdrawn 255 is not large", x.submit(), 1);
        check.due("spent", x.submit(), -6);
        for (int k = 2; k < 15; k++) {
            x.deposit(1, k, k);
        }
        check.due("stale before spent", x.submit(), -5);
        int[] cells = Forge.cellsOf(x);
        cells[4] = 256;
        cells[6] = 256;
        Forge.put(x, cells);
        check.due("fault() with 256 withdrawn", x.fault(), -1);
        check.due("large before stale", x.submit(), -4);
        x.set(3, Reference.mod(x.get(3) + 1));
        check.due("wrong before large", x.submit(), -3);
        x.deposit(1, 15, 15);
        check.due("notes()", x.notes(), 16);
        check.due("load", x.load(0, 3, 0, 255, 1), 1);
        check.due("spent before full", x.submit(), -6);
        check.due("load", x.load(15, 3, 15, 0, 1), 1);
        check.due("full", x.submit(), -7);
        check.due("the mark was not used", x.unspent(15), true);
        check.due("used()", x.used(), 1);
    }

    private static void promise8RecentRoots() {
        for (int later = 0; later <= 5; later++) {
            NotePool x = new NotePool();
            x.deposit(0, 9, 1);
            x.load(0, 1, 9, 0, 2);
            for (int k = 0; k < later; k++) {
                x.deposit(1, k, k);
            }
            check.due("submit() " + later + " notes later", x.submit(), later <= 3 ? later + 1 : -5);
        }
    }

    private static void promise8Forgeries() {
        NotePool x = new NotePool();
        int[] cells = new int[125];
        cells[0] = 1;
        Forge.emptyLeafNote(cells, 510);
        Forge.path(x, cells, 11);
        Forge.pay(cells, Reference.hashOf(103, 0), 255, 255, 77);
        Forge.put(x, cells);
        check.due("fault() of an empty leaf's spending", x.fault(), -1);
        check.due("its root is that of the tree without notes", x.get(1), x.root(0));
        check.due("submit()", x.submit(), 0);
        check.due("value(0)", x.value(0), 255);
        check.due("owner(0)", x.owner(0), 3);
        check.due("pool() is less than nothing", x.pool(), -255);

        NotePool y = new NotePool();
        y.deposit(0, 50, 3);
        y.load(0, 2, 50, 0, 1);
        cells = Forge.cellsOf(y);
        cells[5] = Forge.otherSecret(0);
        Forge.put(y, cells);
        check.due("submit() with another secret of the same key", y.submit(), 1);
        check.due("its mark is not the note's", y.unspent(0), true);
        check.due("balance(0)", y.balance(0), 50);
        y.load(0, 2, 50, 0, 1);
        check.due("submit() with the account's secret", y.submit(), 2);
        check.due("unspent(0)", y.unspent(0), false);
        check.due("used()", y.used(), 2);
    }

    private static void promises9To12Notes() {
        NotePool x = Pools.withOwnerless();
        check.due("notes()", x.notes(), 2);
        check.due("owner(0)", x.owner(0), 0);
        check.due("owner(1)", x.owner(1), -1);
        check.due("value(0)", x.value(0), 40);
        check.due("value(1)", x.value(1), 33);
        check.due("commitment(0)", x.commitment(0),
                new Reference.Note(Reference.hashOf(100, 0), 40, 8).commitment());
        check.due("commitment(1)", x.commitment(1), new Reference.Note(Pools.NO_ONES_KEY, 33, 5).commitment());
        for (int account = 1; account < 4; account++) {
            check.due("deposit", x.deposit(account, account, 0), account + 1);
            check.due("owner", x.owner(account + 1), account);
        }
        int[] none = {5, 15, 16, 17};
        for (int i = 0; i < none.length + FAR.length; i++) {
            int place = i < none.length ? none[i] : FAR[i - none.length];
            check.due("commitment(" + place + ")", x.commitment(place), -2);
            check.due("owner(" + place + ")", x.owner(place), -2);
            check.due("value(" + place + ")", x.value(place), -2);
        }
    }

    private static void promises13And14Unspent() {
        NotePool x = Pools.withOwnerless();
        check.due("unspent(0), spent", x.unspent(0), false);
        check.due("unspent(1), no owner", x.unspent(1), false);
        check.due("unspent(2), no note", x.unspent(2), false);
        check.due("balance(0)", x.balance(0), 0);
        x.deposit(3, 200, 1);
        x.deposit(3, 255, 1);
        x.deposit(3, 255, 1);
        check.due("unspent(3)", x.unspent(3), true);
        check.due("balance(3)", x.balance(3), 710);
        x.load(3, 0, 255, 0, 1);
        x.submit();
        check.due("unspent(3)", x.unspent(3), false);
        check.due("unspent(4) of the same commitment", x.unspent(4), false);
        check.due("balance(3)", x.balance(3), 200);
        check.due("balance(0)", x.balance(0), 255);
        check.due("balance(4)", x.balance(4), -2);
        for (int far : FAR) {
            check.due("unspent(" + far + ")", x.unspent(far), false);
            check.due("balance(" + far + ")", x.balance(far), -2);
        }
        NotePool full = new NotePool();
        for (int k = 0; k < 16; k++) {
            full.deposit(1, 255, k);
        }
        check.due("balance(1) of a full pool", full.balance(1), 4080);
        check.due("unspent(15)", full.unspent(15), true);
        check.due("unspent(16)", full.unspent(16), false);
    }

    private static void promise15Root() {
        NotePool x = new NotePool();
        int[] roots = new int[17];
        for (int n = 0; n <= 16; n++) {
            roots[n] = x.root(0);
            check.due("root(0) is node(4, 0)", x.root(0), x.node(4, 0));
            for (int k = 0; k < 4; k++) {
                check.due("root(" + k + ") of " + n + " notes", x.root(k), k <= n ? roots[n - k] : -1);
            }
            check.due("root(4)", x.root(4), -1);
            x.deposit(n % 4, n, n);
        }
        check.due("root(0) of no notes", roots[0], 23901);
        check.due("a full pool keeps its root", x.root(0), roots[16]);
        for (int far : FAR) {
            check.due("root(" + far + ")", x.root(far), -1);
        }
    }

    private static void promise16Node() {
        for (int notes = 0; notes <= 16; notes++) {
            NotePool x = new NotePool();
            for (int k = 0; k < notes; k++) {
                x.deposit(k % 4, 3 * k, 9 * k);
            }
            for (int leaf = 0; leaf < 16; leaf++) {
                check.due("leaf " + leaf, x.node(0, leaf), leaf < notes ? x.commitment(leaf) : 0);
            }
            for (int level = 1; level <= 4; level++) {
                for (int j = 0; j < 16 >> level; j++) {
                    check.due("node(" + level + ", " + j + ")", x.node(level, j),
                            Reference.hashOf(x.node(level - 1, 2 * j), x.node(level - 1, 2 * j + 1)));
                }
            }
        }
        NotePool x = new NotePool();
        for (int level = 0; level <= 4; level++) {
            check.due("node beyond level " + level, x.node(level, 16 >> level), -1);
            check.due("node before level " + level, x.node(level, -1), -1);
        }
        check.due("node(5, 0)", x.node(5, 0), -1);
        check.due("node(32, 0)", x.node(32, 0), -1);
        for (int far : FAR) {
            check.due("node(" + far + ", 0)", x.node(far, 0), -1);
            check.due("node(2, " + far + ")", x.node(2, far), -1);
        }
    }

    private static void promises17And18Marks() {
        NotePool x = new NotePool();
        TreeSet<Integer> due = new TreeSet<>();
        x.deposit(0, 77, 0);
        for (int place = 0; place < 15; place++) {
            x.load(place, (place + 1) % 4, 77, 0, 31 * place);
            due.add(x.get(2));
            check.due("submit()", x.submit(), place + 1);
            check.due("used()", x.used(), place + 1);
            int k = 0;
            for (int mark : due) {
                check.due("mark(" + k + ")", x.mark(k), mark);
                k++;
            }
            check.due("mark(" + k + ")", x.mark(k), -1);
        }
        x.load(15, 0, 77, 0, 0);
        check.due("submit() when full", x.submit(), -7);
        check.due("used() when full", x.used(), 15);
        check.due("mark(15)", x.mark(15), -1);
        check.due("mark(16)", x.mark(16), -1);
        for (int far : FAR) {
            check.due("mark(" + far + ")", x.mark(far), -1);
        }
    }

    private static void promise19Pool() {
        NotePool x = new NotePool();
        x.deposit(0, 255, 0);
        x.deposit(1, 100, 0);
        check.due("pool()", x.pool(), 355);
        x.deposit(1, 256, 0);
        check.due("pool() after a refusal", x.pool(), 355);
        x.load(0, 1, 55, 200, 0);
        check.due("pool() after load", x.pool(), 355);
        x.submit();
        check.due("pool() after withdrawing 200", x.pool(), 155);
        x.submit();
        check.due("pool() after a refused submit", x.pool(), 155);
        x.load(1, 1, 100, 0, 4);
        x.submit();
        check.due("pool() after withdrawing nothing", x.pool(), 155);
        for (int k = 4; k < 16; k++) {
            x.deposit(2, 255, 0);
        }
        check.due("pool()", x.pool(), 155 + 12 * 255);
        x.deposit(2, 255, 0);
        check.due("pool() when full", x.pool(), 155 + 12 * 255);
    }

    private static void sameCells(String when, NotePool x, Reference r) {
        for (int cell = 0; cell < 125; cell++) {
            check.due(when + ": get(" + cell + ")", x.get(cell), r.get(cell));
        }
    }

    private PromisesTest() {
    }
}
