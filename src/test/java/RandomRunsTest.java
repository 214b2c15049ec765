import java.util.EnumMap;
import java.util.Map;
import java.util.Random;
import java.util.TreeSet;

/**
 * Runs of 512 calls from fixed seeds, in any order and with any arguments, each answer held against the
 * Reference. A run that never meets some answer would prove little, so what was answered is counted too.
 */
public final class RandomRunsTest {
    private static final int RUNS = 4000;
    private static final int WHOLE_VECTOR = 130;
    private static final int[] EDGES = {-2, -1, 0, 1, 2, 3, 4, 5, 15, 16, 17, 124, 125, 255, 256, 65535, 65536, 65537,
        Integer.MIN_VALUE, Integer.MAX_VALUE};
    private static final Call[] QUESTIONS = {Call.HASH, Call.GET, Call.NOTES, Call.COMMITMENT, Call.OWNER, Call.VALUE,
        Call.UNSPENT, Call.BALANCE, Call.ROOT, Call.NODE, Call.USED, Call.MARK, Call.POOL};

    private static final Check check = new Check();
    private static final Map<Call, TreeSet<Integer>> ANSWERED = new EnumMap<>(Call.class);
    private static final TreeSet<Integer> FAULTS = new TreeSet<>();

    private final Random random;
    private final Twins twins = new Twins(check);

    private RandomRunsTest(long seed) {
        this.random = new Random(seed);
    }

    public static void main(String[] args) {
        for (Call call : Call.values()) {
            ANSWERED.put(call, new TreeSet<>());
        }
        for (int seed = 0; seed < RUNS && check.wrong() == 0; seed++) {
            new RandomRunsTest(seed).run(seed % 2 == 0);
        }
        if (check.wrong() == 0) {
            everyAnswerWasMet();
        }
        check.finish();
    }

    /** 0 stands for every answer that is not a constant of the face. */
    private static void everyAnswerWasMet() {
        Map<Call, String> due = new EnumMap<>(Call.class);
        due.put(Call.DEPOSIT, "[-7, -3, -2, 0]");
        due.put(Call.LOAD, "[-3, -2, -1, 0, 1]");
        due.put(Call.SET, "[0, 1]");
        due.put(Call.SUBMIT, "[-7, -6, -5, -4, -3, 0]");
        due.put(Call.OWNER, "[-2, -1, 0]");
        due.put(Call.UNSPENT, "[0, 1]");
        for (Call call : new Call[] {Call.HASH, Call.GET, Call.FAULT, Call.ROOT, Call.NODE, Call.MARK}) {
            due.put(call, "[-1, 0]");
        }
        for (Call call : new Call[] {Call.COMMITMENT, Call.VALUE, Call.BALANCE}) {
            due.put(call, "[-2, 0]");
        }
        for (Call call : due.keySet()) {
            check.same("what " + call + " answered at some time", ANSWERED.get(call).toString(), due.get(call));
        }
        check.due("conditions that were the first not to hold", FAULTS.size(), 115);
    }

    private void run(boolean wholeStateAtTheEnd) {
        int end = wholeStateAtTheEnd ? Twins.STATE_CALLS : 0;
        while (twins.left() > end && !twins.differ()) {
            boolean wholeVector = twins.left() - end >= WHOLE_VECTOR;
            int choice = random.nextInt(100);
            if (choice < 8) {
                make(Call.DEPOSIT, pick(4), pick(256), random.nextInt(3) == 0 ? pick(65537) : pick(3));
            } else if (choice < 20) {
                load();
            } else if (choice < 32) {
                make(Call.SUBMIT);
            } else if (choice < 45) {
                set();
            } else if (choice < 47 && wholeVector) {
                forge();
            } else if (choice < 52 && wholeVector) {
                putRight();
            } else if (choice < 60) {
                make(Call.FAULT);
            } else {
                ask(QUESTIONS[random.nextInt(QUESTIONS.length)]);
            }
        }
        if (wholeStateAtTheEnd && !twins.differ()) {
            twins.sameState();
        }
    }

    private void make(Call call, int... arguments) {
        int due = twins.call(call, arguments);
        boolean asItIs = due < 0 || call == Call.LOAD || call == Call.SET || call == Call.UNSPENT;
        ANSWERED.get(call).add(asItIs ? due : 0);
        if (call == Call.FAULT && due >= 0) {
            FAULTS.add(due);
        }
    }

    /** Mostly what fits, at times an edge of some range, and at times any int there is. */
    private int pick(int bound) {
        return switch (random.nextInt(24)) {
            case 0, 1 -> EDGES[random.nextInt(EDGES.length)];
            case 2 -> random.nextInt();
            default -> random.nextInt(bound);
        };
    }

    private void load() {
        int place = random.nextInt(10) == 0 ? pick(16) : random.nextInt(Math.max(1, twins.r.notes()));
        int value = Math.max(0, twins.r.value(place));
        int amount = random.nextInt(8) == 0 ? pick(256) : random.nextInt(value + 1);
        int withdrawn = random.nextInt(8) == 0 ? pick(256) : value - amount;
        make(Call.LOAD, place, pick(4), amount, withdrawn, pick(65537));
    }

    /** One more or one less in a cell, and 0 or 1, come nearest to holding by mistake. */
    private void set() {
        int cell = pick(125);
        int number = switch (random.nextInt(4)) {
            case 0 -> Math.max(0, twins.r.get(cell)) + 1 - 2 * random.nextInt(2);
            case 1 -> random.nextInt(2);
            default -> pick(65537);
        };
        make(Call.SET, cell, number);
    }

    private void ask(Call call) {
        int[] arguments = new int[call.arguments];
        for (int i = 0; i < arguments.length; i++) {
            arguments[i] = pick(boundOf(call, i));
        }
        make(call, arguments);
    }

    private int boundOf(Call call, int argument) {
        return switch (call) {
            case HASH -> 65537;
            case GET -> 125;
            case BALANCE, ROOT -> 4;
            case NODE -> argument == 0 ? 5 : 16;
            case MARK -> twins.r.used() + 1;
            default -> 16;
        };
    }

    /** Puts the vector right again, whatever its free cells hold. */
    private void putRight() {
        int[] cells = twins.r.v.clone();
        for (int i = 15; i < 19; i++) {
            cells[i] &= 1;
        }
        Forge.amount(cells, cells[9] & 255);
        cells[6] = Reference.mod(cells[9] + cells[4]);
        setAll(cells);
    }

    /** A vector that meets the conditions, with a path into the present tree but foreign numbers. */
    private void forge() {
        int place = random.nextInt(twins.r.notes() + 1);
        if (place == 16) {
            return;
        }
        int[] cells = twins.r.v.clone();
        if (place == twins.r.notes()) {
            Forge.emptyLeafNoteOfAccount1(cells);
        } else {
            noteAt(place, cells);
        }
        for (int i = 0; i < 4; i++) {
            cells[15 + i] = place >> i & 1;
            cells[11 + i] = twins.call(Call.NODE, i, place >> i ^ 1);
        }
        int amount = random.nextInt(256);
        if (random.nextInt(4) != 0) {
            amount = Math.min(amount, cells[6]);
        }
        int key = random.nextInt(3) == 0 ? random.nextInt(65537) : Reference.hashOf(100 + random.nextInt(4), 0);
        Forge.pay(cells, key, amount, Reference.mod(cells[6] - amount), random.nextInt(65537));
        setAll(cells);
    }

    /** 279 is another secret with account 0's key. */
    private void noteAt(int place, int[] cells) {
        Reference.Note note = twins.r.made.get(place);
        cells[5] = note.owner() == 0 && random.nextBoolean() ? 279 : 100 + Math.max(0, note.owner());
        cells[6] = note.value();
        cells[7] = note.nonce();
    }

    private void setAll(int[] cells) {
        Reference.settle(cells);
        for (int cell = 1; cell < 125; cell++) {
            if (twins.r.v[cell] != cells[cell]) {
                make(Call.SET, cell, cells[cell]);
            }
        }
    }
}
