import java.util.function.Supplier;
import java.util.function.ToIntFunction;

/**
 * "Where several refusals that a call names fit, the one named first is the answer. A call that is
 * refused changes nothing.": for every call that can be refused, and every two refusals that can fit
 * at once.
 */
public final class RefusalBoundaryTest {
    private static final Check check = new Check();

    public static void main(String[] args) {
        depositRefusals();
        loadRefusals();
        setRefusals();
        submitRefusals();
        questions();
        check.sentence("submit: five that fit at once, taken away one by one",
                RefusalBoundaryTest::submitOneByOne);
        check.finish();
    }

    private static void depositRefusals() {
        refused("deposit: no account", -2, RefusalBoundaryTest::busy, x -> x.deposit(4, 1, 1));
        refused("deposit: wrong value", -3, RefusalBoundaryTest::busy, x -> x.deposit(0, 256, 1));
        refused("deposit: wrong nonce", -3, RefusalBoundaryTest::busy, x -> x.deposit(0, 1, 65537));
        refused("deposit: full", -7, Pools::full, x -> x.deposit(0, 1, 1));
        refused("deposit: no account, wrong value", -2, RefusalBoundaryTest::busy, x -> x.deposit(-1, 256, 1));
        refused("deposit: no account, wrong nonce", -2, RefusalBoundaryTest::busy, x -> x.deposit(4, 1, -1));
        refused("deposit: no account, full", -2, Pools::full, x -> x.deposit(4, 1, 1));
        refused("deposit: wrong value, full", -3, Pools::full, x -> x.deposit(0, -1, 1));
        refused("deposit: wrong nonce, full", -3, Pools::full, x -> x.deposit(0, 1, 65537));
        refused("deposit: all at once", -2, Pools::full, x -> x.deposit(4, 256, 65537));
    }

    /**
     * In the pool "busy" the places 0 .. 2 have notes, the one at place 1 has no owner, and the vector
     * is that of place 2: a refused call that wrote anything of another note would be seen.
     */
    private static void loadRefusals() {
        refused("load: no note", -2, RefusalBoundaryTest::busy, x -> x.load(3, 0, 10, 0, 0));
        refused("load: no payee", -2, RefusalBoundaryTest::busy, x -> x.load(0, 4, 10, 0, 0));
        refused("load: no owner", -1, RefusalBoundaryTest::busy, x -> x.load(1, 0, 10, 0, 0));
        refused("load: wrong amount", -3, RefusalBoundaryTest::busy, x -> x.load(0, 0, 256, 0, 0));
        refused("load: wrong withdrawn", -3, RefusalBoundaryTest::busy, x -> x.load(0, 0, 0, 256, 0));
        refused("load: wrong nonce", -3, RefusalBoundaryTest::busy, x -> x.load(0, 0, 12, 0, 65537));
        refused("load: no note, no payee", -2, RefusalBoundaryTest::busy, x -> x.load(-1, -1, 10, 0, 0));
        refused("load: no note, wrong amount", -2, RefusalBoundaryTest::busy, x -> x.load(3, 0, -1, 0, 0));
        refused("load: no note, wrong withdrawn", -2, RefusalBoundaryTest::busy, x -> x.load(3, 0, 0, -1, 0));
        refused("load: no note, wrong nonce", -2, RefusalBoundaryTest::busy, x -> x.load(3, 0, 0, 0, -1));
        refused("load: no payee, no owner", -2, RefusalBoundaryTest::busy, x -> x.load(1, 4, 33, 0, 0));
        refused("load: no payee, wrong amount", -2, RefusalBoundaryTest::busy, x -> x.load(0, 4, 256, 0, 0));
        refused("load: no payee, wrong withdrawn", -2, RefusalBoundaryTest::busy, x -> x.load(0, 4, 0, 256, 0));
        refused("load: no payee, wrong nonce", -2, RefusalBoundaryTest::busy, x -> x.load(0, 4, 0, 0, 65537));
        refused("load: no owner, wrong amount", -1, RefusalBoundaryTest::busy, x -> x.load(1, 0, 256, 0, 0));
        refused("load: no owner, wrong withdrawn", -1, RefusalBoundaryTest::busy, x -> x.load(1, 0, 0, 256, 0));
        refused("load: no owner, wrong nonce", -1, RefusalBoundaryTest::busy, x -> x.load(1, 0, 0, 0, 65537));
        refused("load: all of the arguments", -2, RefusalBoundaryTest::busy, x -> x.load(16, 4, 256, 256, 65537));
        refused("load: no note of none", -2, NotePool::new, x -> x.load(0, 0, 0, 0, 0));
    }

    private static void setRefusals() {
        refused("set: cell 0", 0, RefusalBoundaryTest::busy, x -> x.set(0, 5) ? 1 : 0);
        refused("set: no cell", 0, RefusalBoundaryTest::busy, x -> x.set(125, 5) ? 1 : 0);
        refused("set: no number", 0, RefusalBoundaryTest::busy, x -> x.set(1, 65537) ? 1 : 0);
        refused("set: no cell and no number", 0, RefusalBoundaryTest::busy, x -> x.set(-1, -1) ? 1 : 0);
    }

    private static void submitRefusals() {
        refused("submit: wrong", -3, () -> spoilt(justLoaded()), NotePool::submit);
        refused("submit: large", -4, RefusalBoundaryTest::large, NotePool::submit);
        refused("submit: stale", -5, () -> fourLater(justLoaded()), NotePool::submit);
        refused("submit: spent", -6, RefusalBoundaryTest::spent, NotePool::submit);
        refused("submit: full", -7, RefusalBoundaryTest::fullAndLoaded, NotePool::submit);
        refused("submit: wrong, large", -3, () -> spoilt(large()), NotePool::submit);
        refused("submit: wrong, stale", -3, () -> fourLater(spoilt(justLoaded())), NotePool::submit);
        refused("submit: wrong, spent", -3, () -> spoilt(spent()), NotePool::submit);
        refused("submit: wrong, full", -3, () -> spoilt(fullAndLoaded()), NotePool::submit);
        refused("submit: large, stale", -4, () -> fourLater(large()), NotePool::submit);
        refused("submit: large, spent", -4, () -> loadLarge(spent()), NotePool::submit);
        refused("submit: large, full", -4, () -> loadLarge(Pools.full()), NotePool::submit);
        refused("submit: stale, spent", -5, () -> fourLater(spent()), NotePool::submit);
        refused("submit: stale, full", -5, RefusalBoundaryTest::staleAndFull, NotePool::submit);
        refused("submit: spent, full", -6, RefusalBoundaryTest::spentAndFull, NotePool::submit);
    }

    private static void questions() {
        refused("hash: no numbers", -1, RefusalBoundaryTest::busy, x -> x.hash(65537, -1));
        refused("get: no cell", -1, RefusalBoundaryTest::busy, x -> x.get(125));
        refused("commitment: no note", -2, RefusalBoundaryTest::busy, x -> x.commitment(3));
        refused("owner: no note", -2, RefusalBoundaryTest::busy, x -> x.owner(3));
        refused("owner: no owner", -1, RefusalBoundaryTest::busy, x -> x.owner(1));
        refused("value: no note", -2, RefusalBoundaryTest::busy, x -> x.value(3));
        refused("unspent: no note", 0, RefusalBoundaryTest::busy, x -> x.unspent(3) ? 1 : 0);
        refused("balance: no account", -2, RefusalBoundaryTest::busy, x -> x.balance(4));
        refused("root: no such", -1, RefusalBoundaryTest::busy, x -> x.root(4));
        refused("node: no such", -1, RefusalBoundaryTest::busy, x -> x.node(5, 16));
        refused("mark: no such", -1, RefusalBoundaryTest::busy, x -> x.mark(1));
        refused("fault: a question", -1, RefusalBoundaryTest::busy, NotePool::fault);
    }

    /** The call is made on one of two pools that are alike, and they must be alike after it. */
    private static void refused(String name, int due, Supplier<NotePool> setup, ToIntFunction<NotePool> call) {
        check.sentence(name, () -> {
            NotePool asked = setup.get();
            NotePool twin = setup.get();
            check.due("the call", call.applyAsInt(asked), due);
            check.same("the state", Pools.stateOf(asked), Pools.stateOf(twin));
            check.due("a later deposit", asked.deposit(1, 3, 3), twin.deposit(1, 3, 3));
            check.due("a later submit", asked.submit(), twin.submit());
            check.same("what load shows", Pools.noncesOf(asked), Pools.noncesOf(twin));
            check.due("the root at last", asked.root(0), twin.root(0));
            check.due("the pool at last", asked.pool(), twin.pool());
        });
    }

    /** A spent note, one without owner, an unspent one, and a vector that could be handed in. */
    private static NotePool busy() {
        NotePool x = Pools.withOwnerless();
        Pools.deposit(x, 1);
        x.load(2, 3, 7, 5, 6);
        return x;
    }

    private static NotePool justLoaded() {
        NotePool x = Pools.withDeposits(1);
        x.load(0, 3, 4, 6, 1);
        return x;
    }

    private static NotePool spent() {
        NotePool x = justLoaded();
        x.submit();
        return x;
    }

    private static NotePool large() {
        return loadLarge(Pools.withDeposits(1));
    }

    /** 20 paid and 65527 withdrawn out of the 10 of the note at place 0. */
    private static NotePool loadLarge(NotePool x) {
        x.load(0, 3, 20, 0, 1);
        x.set(4, 65527);
        return x;
    }

    private static NotePool fullAndLoaded() {
        NotePool x = Pools.full();
        x.load(15, 3, 20, 5, 1);
        return x;
    }

    private static NotePool staleAndFull() {
        NotePool x = justLoaded();
        Pools.fill(x);
        return x;
    }

    private static NotePool spentAndFull() {
        NotePool x = spent();
        Pools.fill(x);
        x.load(0, 3, 4, 6, 1);
        return x;
    }

    private static NotePool spoilt(NotePool x) {
        x.set(3, Reference.mod(x.get(3) + 1));
        return x;
    }

    private static NotePool fourLater(NotePool x) {
        Pools.deposit(x, 4);
        return x;
    }

    private static void submitOneByOne() {
        NotePool x = spent();
        loadLarge(x);
        Pools.fill(x);
        int good = x.get(3);
        x.set(3, Reference.mod(good + 1));
        check.due("all five", x.submit(), -3);
        x.set(3, good);
        check.due("not wrong any more", x.submit(), -4);
        int[] cells = Forge.cellsOf(x);
        Forge.pay(cells, Pools.KEYS[3], 4, 6, 1);
        Forge.put(x, cells);
        check.due("not large any more", x.submit(), -5);
        x.load(0, 3, 4, 6, 1);
        check.due("not stale any more", x.submit(), -6);
        x.load(1, 0, 4, 0, 1);
        check.due("not spent any more", x.submit(), -7);
        check.due("notes()", x.notes(), 16);
        check.due("used()", x.used(), 1);
    }

    private RefusalBoundaryTest() {
    }
}
