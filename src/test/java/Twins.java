import java.util.ArrayList;
import java.util.List;

/**
 * A pool and the Reference side by side: every call is made on both, and their answers must be the
 * same. The first answer that is not is printed with all the calls before it.
 */
final class Twins {
    /** What an object answers after its 512th call is free. */
    static final int CALLS = 512;
    /** So many calls does sameState make. */
    static final int STATE_CALLS = 259;

    final NotePool x = new NotePool();
    final Reference r = new Reference();
    private final Check check;
    private final List<Call> calls = new ArrayList<>();
    private final List<int[]> arguments = new ArrayList<>();
    private boolean differ = false;

    Twins(Check check) {
        this.check = check;
    }

    int left() {
        return CALLS - calls.size();
    }

    boolean differ() {
        return differ;
    }

    /** Makes the call on both, and answers what is due. */
    int call(Call call, int... a) {
        if (left() == 0) {
            throw new IllegalStateException("a test made more than " + CALLS + " calls on one object");
        }
        calls.add(call);
        arguments.add(a);
        int due = call.on(r, a);
        int got = call.on(x, a);
        if (got == due) {
            check.due("", got, due);
        } else {
            differ = true;
            check.due("after " + story() + ":\n  " + call.text(a), got, due);
        }
        return due;
    }

    private String story() {
        StringBuilder text = new StringBuilder(calls.size() == 1 ? "nothing" : "");
        for (int i = 0; i < calls.size() - 1; i++) {
            text.append(i == 0 ? "" : ", ").append(calls.get(i).text(arguments.get(i)));
        }
        return text.toString();
    }

    /** All that the face shows without changing anything. */
    void sameState() {
        for (int cell = 0; cell < 125; cell++) {
            call(Call.GET, cell);
        }
        sameNotes();
        for (int level = 0; level < 5; level++) {
            for (int number = 0; number < 16 >> level; number++) {
                call(Call.NODE, level, number);
            }
        }
        for (int k = 0; k < 17; k++) {
            call(Call.MARK, k);
        }
    }

    private void sameNotes() {
        call(Call.FAULT);
        call(Call.NOTES);
        call(Call.USED);
        call(Call.POOL);
        for (int place = 0; place < 17; place++) {
            call(Call.COMMITMENT, place);
            call(Call.OWNER, place);
            call(Call.VALUE, place);
            call(Call.UNSPENT, place);
        }
        for (int k = 0; k < 5; k++) {
            call(Call.BALANCE, k);
            call(Call.ROOT, k);
        }
        call(Call.BALANCE, -1);
        call(Call.ROOT, -1);
        call(Call.MARK, -1);
        call(Call.OWNER, -1);
    }
}
