import java.util.Random;

/** Runs of up to 512 calls from fixed seeds, each answer held against the Reference. */
public final class RandomRunsTest {
    private static final int RUNS = 400;
    private static final int CALLS = 512;
    private static final int WHOLE_VECTOR = 128;
    private static final int[] EDGES = {-1, 0, 1, 2, 3, 4, 15, 16, 124, 125, 255, 256, 65536, 65537,
        Integer.MIN_VALUE, Integer.MAX_VALUE};

    private final Check check;
    private final Random random;
    private final NotePool x = new NotePool();
    private final Reference r = new Reference();
    // What an object answers after its 512th call is free, so no run goes beyond it.
    private int left = CALLS;

    private RandomRunsTest(Check check, long seed) {
        this.check = check;
        this.random = new Random(seed);
    }

    public static void main(String[] args) {
        Check check = new Check();
        int[] answers = new int[8];
        for (int seed = 0; seed < RUNS && check.wrong() == 0; seed++) {
            new RandomRunsTest(check, seed).run(answers);
        }
        for (int code = 1; code < 8; code++) {
            // A run that never meets some refusal of submit would prove little.
            boolean reachable = code != 1 && code != 2;
            check.due("submit answered -" + code + " at some time", answers[code] > 0, reachable);
        }
        check.due("submit answered a place at some time", answers[0] > 0, true);
        check.finish();
    }

    private void run(int[] answers) {
        while (left > 0 && check.wrong() == 0) {
            int choice = random.nextInt(100);
            if (choice < 8) {
                deposit();
            } else if (choice < 20) {
                load();
            } else if (choice < 32) {
                submit(answers);
            } else if (choice < 45) {
                set(random.nextInt(126), pick(65537));
            } else if (choice < 47 && left >= WHOLE_VECTOR) {
                forge();
            } else if (choice < 52 && left >= WHOLE_VECTOR) {
                undo();
            } else if (choice < 60) {
                due("fault()", x.fault(), r.fault());
            } else {
                ask(random.nextInt(14));
            }
        }
    }

    private int pick(int bound) {
        return random.nextInt(12) == 0 ? EDGES[random.nextInt(EDGES.length)] : random.nextInt(bound);
    }

    private void due(String call, long got, long want) {
        left--;
        check.due(call, got, want);
    }

    private void deposit() {
        int account = pick(4);
        int value = pick(256);
        int nonce = pick(3);
        due("deposit(" + account + ", " + value + ", " + nonce + ")", x.deposit(account, value, nonce),
                r.deposit(account, value, nonce));
    }

    private void load() {
        int place = random.nextInt(10) == 0 ? pick(16) : random.nextInt(Math.max(1, r.notes()));
        int payee = pick(4);
        int value = Math.max(0, r.value(place));
        int amount = random.nextInt(8) == 0 ? pick(256) : random.nextInt(value + 1);
        int withdrawn = random.nextInt(8) == 0 ? pick(256) : value - amount;
        int nonce = pick(65537);
        due("load(" + place + ", " + payee + ", " + amount + ", " + withdrawn + ", " + nonce + ")",
                x.load(place, payee, amount, withdrawn, nonce), r.load(place, payee, amount, withdrawn, nonce));
    }

    private void submit(int[] answers) {
        int want = r.submit();
        due("submit()", x.submit(), want);
        answers[Math.max(0, -want)]++;
    }

    private void set(int cell, int number) {
        due("set(" + cell + ", " + number + ")", x.set(cell, number) ? 1 : 0, r.set(cell, number) ? 1 : 0);
    }

    /** Puts the vector right again, whatever its free cells hold. */
    private void undo() {
        int[] cells = r.v.clone();
        for (int i = 15; i < 19; i++) {
            cells[i] &= 1;
        }
        Forge.amount(cells, cells[9] & 255);
        cells[6] = Reference.mod(cells[9] + cells[4]);
        setAll(cells);
    }

    /** A vector that meets the conditions, with a path into the present tree but foreign numbers. */
    private void forge() {
        if (r.notes() == 0) {
            return;
        }
        int place = random.nextInt(r.notes());
        Reference.Note note = r.made.get(place);
        int[] cells = r.v.clone();
        cells[5] = note.owner() == 0 && random.nextBoolean() ? 279 : 100 + Math.max(0, note.owner());
        cells[6] = note.value();
        cells[7] = note.nonce();
        Forge.path(x, cells, place);
        left -= 4;
        int amount = random.nextInt(256);
        int key = random.nextInt(3) == 0 ? random.nextInt(65537) : Reference.hashOf(100 + random.nextInt(4), 0);
        if (random.nextInt(4) != 0) {
            amount = Math.min(amount, note.value());
        }
        Forge.pay(cells, key, amount, Reference.mod(note.value() - amount), random.nextInt(65537));
        setAll(cells);
    }

    private void setAll(int[] cells) {
        Reference.settle(cells);
        for (int cell = 1; cell < 125; cell++) {
            if (r.v[cell] != cells[cell]) {
                set(cell, cells[cell]);
            }
        }
    }

    private void ask(int what) {
        int k = pick(17);
        int j = pick(17);
        switch (what) {
            case 0 -> due("hash(" + k * 4001 + ", " + j + ")", x.hash(k * 4001, j), r.hash(k * 4001, j));
            case 1 -> due("get(" + (k * 8 + j) + ")", x.get(k * 8 + j), r.get(k * 8 + j));
            case 2 -> due("notes()", x.notes(), r.notes());
            case 3 -> due("commitment(" + k + ")", x.commitment(k), r.commitment(k));
            case 4 -> due("owner(" + k + ")", x.owner(k), r.owner(k));
            case 5 -> due("value(" + k + ")", x.value(k), r.value(k));
            case 6 -> due("unspent(" + k + ")", x.unspent(k) ? 1 : 0, r.unspent(k) ? 1 : 0);
            case 7 -> due("balance(" + k % 5 + ")", x.balance(k % 5), r.balance(k % 5));
            case 8 -> due("root(" + k % 5 + ")", x.root(k % 5), r.root(k % 5));
            case 9 -> due("node(" + k % 6 + ", " + j + ")", x.node(k % 6, j), r.node(k % 6, j));
            case 10 -> due("node(0, " + j + ")", x.node(0, j), r.node(0, j));
            case 11 -> due("used()", x.used(), r.used());
            case 12 -> due("mark(" + k + ")", x.mark(k), r.mark(k));
            default -> due("pool()", x.pool(), r.pool());
        }
    }
}
