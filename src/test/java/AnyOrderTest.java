import java.util.List;

/**
 * Every row of three or four out of a fixed list of calls, with repetitions, from several pools to begin
 * with: each answer, and all that the face shows at the end, held against the Reference.
 */
public final class AnyOrderTest {
    private static final Check check = new Check();

    private record Step(Call call, int... arguments) {
    }

    /** Made twice, the deposit with the nonce 8 makes notes that are alike; the one with 823 has the commitment 0. */
    private static final List<Step> STEPS = List.of(
            new Step(Call.DEPOSIT, 0, 40, 8), new Step(Call.DEPOSIT, 0, 0, 823), new Step(Call.DEPOSIT, 3, 255, 65536),
            new Step(Call.DEPOSIT, 4, 40, 8), new Step(Call.LOAD, 0, 1, 33, 7, 5), new Step(Call.LOAD, 0, 0, 40, 1, 8),
            new Step(Call.LOAD, 1, 2, 0, 0, 9), new Step(Call.LOAD, 15, 2, 20, 5, 9), new Step(Call.LOAD, 0, 4, 33, 7, 5),
            new Step(Call.SET, 4, 0), new Step(Call.SET, 6, 41), new Step(Call.SET, 0, 7), new Step(Call.SUBMIT));

    public static void main(String[] args) {
        check.sentence("four calls on a new pool", () -> rows(0, false, 4));
        check.sentence("three calls when a note was deposited and loaded", () -> rows(1, true, 3));
        check.sentence("three calls when four were deposited and one loaded", () -> rows(4, true, 3));
        check.sentence("four calls with two places left", () -> rows(14, true, 4));
        check.sentence("three calls with one place left", () -> rows(15, true, 3));
        check.sentence("three calls with no place left", () -> rows(16, true, 3));
        check.finish();
    }

    private static void rows(int deposits, boolean loaded, int length) {
        int count = 1;
        for (int i = 0; i < length; i++) {
            count *= STEPS.size();
        }
        for (int row = 0; row < count && check.wrong() == 0; row++) {
            Twins twins = begin(deposits, loaded);
            for (int rest = row, i = 0; i < length; i++, rest /= STEPS.size()) {
                Step step = STEPS.get(rest % STEPS.size());
                twins.call(step.call(), step.arguments());
            }
            twins.sameState();
        }
    }

    private static Twins begin(int deposits, boolean loaded) {
        Twins twins = new Twins(check);
        for (int place = 0; place < deposits; place++) {
            twins.call(Call.DEPOSIT, place % 4, 40 - place, 8 + place);
        }
        if (loaded) {
            twins.call(Call.LOAD, deposits - 1, 1, 10, 30 - deposits + 1, 77);
        }
        return twins;
    }

    private AnyOrderTest() {
    }
}
