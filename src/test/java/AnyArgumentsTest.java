import java.util.ArrayList;
import java.util.List;

/**
 * Every call with arguments at, beside and far from the ends of the ranges that the document names, in
 * every combination of a fixed list, on pools in three states, held against the Reference.
 */
public final class AnyArgumentsTest {
    private static final Check check = new Check();

    private static final int[] EDGES = {Integer.MIN_VALUE, Integer.MIN_VALUE + 1, -65537, -65536, -256, -2, -1, 0, 1,
        2, 3, 4, 5, 7, 8, 15, 16, 17, 31, 32, 33, 124, 125, 126, 254, 255, 256, 257, 65535, 65536, 65537, 65538,
        131072, Integer.MAX_VALUE - 1, Integer.MAX_VALUE};
    // Five arguments at once would be too many choices with all of them.
    private static final int[][] LOAD_EDGES = {{Integer.MIN_VALUE, -1, 0, 1, 2, 3, 15, 16, Integer.MAX_VALUE},
        {Integer.MIN_VALUE, -1, 0, 3, 4, Integer.MAX_VALUE}, {Integer.MIN_VALUE, -1, 0, 7, 255, 256, 65536},
        {-65537, -1, 0, 5, 255, 256, Integer.MAX_VALUE}, {Integer.MIN_VALUE, -1, 0, 65536, 65537}};

    /** The states that the calls meet; a start is made anew when a call has changed it. */
    private enum Start { NEW, BUSY, FULL }

    public static void main(String[] args) {
        for (Start start : Start.values()) {
            for (Call call : Call.values()) {
                check.sentence(call.name().toLowerCase() + " with any arguments, " + start, () -> ask(start, call));
            }
        }
        check.finish();
    }

    private static void ask(Start start, Call call) {
        Twins twins = begin(start);
        for (int[] arguments : choices(call)) {
            if (twins.left() == 0) {
                twins = begin(start);
            }
            int due = twins.call(call, arguments);
            if (twins.differ()) {
                return;
            }
            if (changes(call, due)) {
                lookAt(twins, call, arguments);
                twins = begin(start);
            }
        }
    }

    private static Twins begin(Start start) {
        Twins twins = new Twins(check);
        if (start == Start.BUSY) {
            busy(twins);
        } else if (start == Start.FULL) {
            for (int place = 0; place < 16; place++) {
                twins.call(Call.DEPOSIT, place % 4, 10 + place, 1000 + place);
            }
            twins.call(Call.LOAD, 14, 0, 20, 4, 5);
        }
        return twins;
    }

    /** Place 0 is spent, place 1 has no owner, place 2 is unspent and loaded. */
    private static void busy(Twins twins) {
        twins.call(Call.DEPOSIT, 0, 40, 8);
        twins.call(Call.LOAD, 0, 1, 33, 7, 5);
        int[] cells = twins.r.v.clone();
        cells[8] = Pools.NO_ONES_KEY;
        Reference.settle(cells);
        for (int cell = 1; cell < 125; cell++) {
            if (cells[cell] != twins.r.v[cell]) {
                twins.call(Call.SET, cell, cells[cell]);
            }
        }
        twins.call(Call.SUBMIT);
        twins.call(Call.DEPOSIT, 2, 12, 1002);
        twins.call(Call.LOAD, 2, 3, 7, 5, 6);
    }

    private static boolean changes(Call call, int due) {
        return switch (call) {
            case DEPOSIT, LOAD, SUBMIT -> due >= 0;
            case SET -> due == 1;
            default -> false;
        };
    }

    private static void lookAt(Twins twins, Call call, int[] arguments) {
        if (call == Call.SET) {
            twins.call(Call.GET, arguments[0]);
            twins.call(Call.FAULT);
        } else {
            twins.sameState();
        }
    }

    private static List<int[]> choices(Call call) {
        List<int[]> choices = new ArrayList<>();
        addChoices(choices, call, new int[call.arguments], 0);
        return choices;
    }

    private static void addChoices(List<int[]> choices, Call call, int[] chosen, int next) {
        if (next == chosen.length) {
            choices.add(chosen.clone());
            return;
        }
        for (int edge : call == Call.LOAD ? LOAD_EDGES[next] : EDGES) {
            chosen[next] = edge;
            addChoices(choices, call, chosen, next + 1);
        }
    }

    private AnyArgumentsTest() {
    }
}
