import java.math.BigInteger;
import java.util.ArrayList;
import java.util.List;
import java.util.TreeSet;
import java.util.function.BooleanSupplier;
import java.util.function.LongSupplier;

/**
 * The document written down a second time, as far from the program's own way as it goes: nothing
 * is kept that can be worked out again, and every condition is its own formula.
 */
final class Reference {
    record Note(int key, int value, int nonce) {
        int commitment() {
            return hashOf(hashOf(key, value), nonce);
        }

        int owner() {
            for (int k = 0; k < 4; k++) {
                if (key == hashOf(100 + k, 0)) {
                    return k;
                }
            }
            return -1;
        }

        int mark() {
            return hashOf(100 + owner(), commitment());
        }
    }

    private static final BigInteger P = BigInteger.valueOf(65537);
    // Hashes worked out lately: the tests ask for the same ones over and over.
    private static final long[] ASKED = new long[1 << 16];
    private static final int[] ANSWERED = new int[ASKED.length];

    final int[] v = new int[125];
    final List<Note> made = new ArrayList<>();
    final TreeSet<Integer> usedMarks = new TreeSet<>();
    private final List<BooleanSupplier> conditions = new ArrayList<>();
    private int deposited = 0;
    private int takenOut = 0;

    Reference() {
        v[0] = 1;
        writeConditions();
    }

    static int mod(long x) {
        return (int) Math.floorMod(x, 65537L);
    }

    static int hashOf(long a, long b) {
        long asked = a * 65537 + b + 1;
        int slot = (int) ((a * 31 + b) % ASKED.length);
        if (ASKED[slot] != asked) {
            ASKED[slot] = asked;
            ANSWERED[slot] = workOutHash(a, b);
        }
        return ANSWERED[slot];
    }

    private static int workOutHash(long a, long b) {
        BigInteger x = BigInteger.valueOf(a);
        for (int salt : new int[] {11, 222, 3333, 44444}) {
            x = x.add(BigInteger.valueOf(b + salt)).pow(3).mod(P);
        }
        return x.add(BigInteger.valueOf(a + b)).mod(P).intValue();
    }

    private static boolean outside(int x, int low, int high) {
        return x < low || x > high;
    }

    int hash(int a, int b) {
        return outside(a, 0, 65536) || outside(b, 0, 65536) ? -1 : hashOf(a, b);
    }

    int deposit(int account, int value, int nonce) {
        if (outside(account, 0, 3)) return -2;
        if (outside(value, 0, 255) || outside(nonce, 0, 65536)) return -3;
        if (made.size() == 16) return -7;
        made.add(new Note(hashOf(100 + account, 0), value, nonce));
        deposited += value;
        return made.size() - 1;
    }

    int load(int place, int payee, int amount, int withdrawn, int newNonce) {
        if (outside(place, 0, made.size() - 1)) return -2;
        if (outside(payee, 0, 3)) return -2;
        Note note = made.get(place);
        if (note.owner() < 0) return -1;
        if (outside(amount, 0, 255) || outside(withdrawn, 0, 255)) return -3;
        if (outside(newNonce, 0, 65536)) return -3;
        v[4] = withdrawn;
        v[5] = 100 + note.owner();
        v[6] = note.value();
        v[7] = note.nonce();
        v[8] = hashOf(100 + payee, 0);
        v[9] = amount;
        v[10] = newNonce;
        for (int i = 0; i < 4; i++) {
            int above = place / (1 << i);
            v[15 + i] = above % 2;
            v[11 + i] = treeNode(i, above % 2 == 0 ? above + 1 : above - 1, made.size());
        }
        for (int k = 0; k < 8; k++) {
            v[27 + k] = amount / (1 << k) % 2;
        }
        settle(v);
        return fault() == -1 ? 1 : 0;
    }

    /** Gives the cells 1 .. 3, 19 .. 26 and 35 .. 124 what the others ask for. */
    static void settle(int[] v) {
        int key = settleBlock(v, 0, v[5], 0);
        int inner = settleBlock(v, 1, key, v[6]);
        int commitment = settleBlock(v, 2, inner, v[7]);
        int n = commitment;
        for (int i = 0; i < 4; i++) {
            v[19 + i] = mod(n + (long) v[15 + i] * (v[11 + i] - n));
            v[23 + i] = mod((long) n + v[11 + i] - v[19 + i]);
            n = settleBlock(v, 3 + i, v[19 + i], v[23 + i]);
        }
        v[1] = n;
        v[2] = settleBlock(v, 7, v[5], commitment);
        v[3] = settleBlock(v, 9, settleBlock(v, 8, v[8], v[9]), v[10]);
    }

    private static int settleBlock(int[] v, int block, long a, long b) {
        int at = 35 + 9 * block;
        long x = a;
        for (int salt : new int[] {11, 222, 3333, 44444}) {
            long t = mod(x + b + salt);
            v[at++] = mod(t * t);
            v[at++] = mod(mod(t * t) * t);
            x = v[at - 1];
        }
        v[at] = mod(x + a + b);
        return v[at];
    }

    boolean set(int cell, int number) {
        if (outside(cell, 1, 124) || outside(number, 0, 65536)) return false;
        v[cell] = number;
        return true;
    }

    int get(int cell) {
        return outside(cell, 0, 124) ? -1 : v[cell];
    }

    int fault() {
        for (int i = 0; i < conditions.size(); i++) {
            if (!conditions.get(i).getAsBoolean()) return i;
        }
        return -1;
    }

    int submit() {
        if (fault() != -1) return -3;
        if (v[4] > 255) return -4;
        boolean recent = false;
        for (int k = 0; k < 4; k++) {
            recent |= root(k) == v[1];
        }
        if (!recent) return -5;
        if (usedMarks.contains(v[2])) return -6;
        if (made.size() == 16) return -7;
        usedMarks.add(v[2]);
        takenOut += v[4];
        made.add(new Note(v[8], v[9], v[10]));
        return made.size() - 1;
    }

    int notes() {
        return made.size();
    }

    int commitment(int place) {
        return outside(place, 0, made.size() - 1) ? -2 : made.get(place).commitment();
    }

    int owner(int place) {
        return outside(place, 0, made.size() - 1) ? -2 : made.get(place).owner();
    }

    int value(int place) {
        return outside(place, 0, made.size() - 1) ? -2 : made.get(place).value();
    }

    boolean unspent(int place) {
        return owner(place) >= 0 && !usedMarks.contains(made.get(place).mark());
    }

    int balance(int account) {
        if (outside(account, 0, 3)) return -2;
        int total = 0;
        for (int place = 0; place < made.size(); place++) {
            total += owner(place) == account && unspent(place) ? value(place) : 0;
        }
        return total;
    }

    int root(int k) {
        return outside(k, 0, 3) || k > made.size() ? -1 : treeNode(4, 0, made.size() - k);
    }

    int node(int level, int number) {
        if (outside(level, 0, 4)) return -1;
        int[] width = {16, 8, 4, 2, 1};
        return outside(number, 0, width[level] - 1) ? -1 : treeNode(level, number, made.size());
    }

    private int treeNode(int level, int number, int notes) {
        if (level == 0) {
            return number < notes ? made.get(number).commitment() : 0;
        }
        return hashOf(treeNode(level - 1, 2 * number, notes), treeNode(level - 1, 2 * number + 1, notes));
    }

    int used() {
        return usedMarks.size();
    }

    int mark(int k) {
        for (int mark : usedMarks) {
            if (usedMarks.headSet(mark).size() == k) return mark;
        }
        return -1;
    }

    int pool() {
        return deposited - takenOut;
    }

    private void equal(LongSupplier left, LongSupplier right) {
        conditions.add(() -> mod(left.getAsLong()) == mod(right.getAsLong()));
    }

    private void writeConditions() {
        for (int i = 0; i < 4; i++) {
            int turn = 15 + i;
            equal(() -> (long) v[turn] * v[turn], () -> v[turn]);
        }
        for (int k = 0; k < 8; k++) {
            int bit = 27 + k;
            equal(() -> (long) v[bit] * v[bit], () -> v[bit]);
        }
        equal(() -> v[27] + 2L * v[28] + 4L * v[29] + 8L * v[30] + 16L * v[31] + 32L * v[32]
                + 64L * v[33] + 128L * v[34], () -> v[9]);
        equal(() -> (long) v[9] + v[4], () -> v[6]);
        writeBlock(0, () -> v[5], () -> 0);
        writeBlock(1, () -> v[43], () -> v[6]);
        writeBlock(2, () -> v[52], () -> v[7]);
        for (int level = 0; level < 4; level++) {
            int i = level;
            int n = 35 + 9 * (2 + i) + 8;
            equal(() -> v[19 + i], () -> v[n] + (long) v[15 + i] * (v[11 + i] - v[n]));
            equal(() -> v[23 + i], () -> (long) v[n] + v[11 + i] - v[19 + i]);
            writeBlock(3 + i, () -> v[19 + i], () -> v[23 + i]);
        }
        writeBlock(7, () -> v[5], () -> v[61]);
        writeBlock(8, () -> v[8], () -> v[9]);
        writeBlock(9, () -> v[115], () -> v[10]);
        equal(() -> v[1], () -> v[97]);
        equal(() -> v[2], () -> v[106]);
        equal(() -> v[3], () -> v[124]);
    }

    private void writeBlock(int block, LongSupplier a, LongSupplier b) {
        int e = 35 + 9 * block;
        LongSupplier t0 = () -> mod(a.getAsLong() + b.getAsLong() + 11);
        LongSupplier t1 = () -> mod(v[e + 1] + b.getAsLong() + 222);
        LongSupplier t2 = () -> mod(v[e + 3] + b.getAsLong() + 3333);
        LongSupplier t3 = () -> mod(v[e + 5] + b.getAsLong() + 44444);
        equal(() -> v[e], () -> t0.getAsLong() * t0.getAsLong());
        equal(() -> v[e + 1], () -> v[e] * t0.getAsLong());
        equal(() -> v[e + 2], () -> t1.getAsLong() * t1.getAsLong());
        equal(() -> v[e + 3], () -> v[e + 2] * t1.getAsLong());
        equal(() -> v[e + 4], () -> t2.getAsLong() * t2.getAsLong());
        equal(() -> v[e + 5], () -> v[e + 4] * t2.getAsLong());
        equal(() -> v[e + 6], () -> t3.getAsLong() * t3.getAsLong());
        equal(() -> v[e + 7], () -> v[e + 6] * t3.getAsLong());
        equal(() -> v[e + 8], () -> v[e + 7] + a.getAsLong() + b.getAsLong());
    }
}
