/** The calls of the document's face, each as it is made on the program and on the Reference. */
enum Call {
    HASH(2), DEPOSIT(3), LOAD(5), SET(2), GET(1), FAULT(0), SUBMIT(0), NOTES(0), COMMITMENT(1), OWNER(1),
    VALUE(1), UNSPENT(1), BALANCE(1), ROOT(1), NODE(2), USED(0), MARK(1), POOL(0);

    final int arguments;

    Call(int arguments) {
        this.arguments = arguments;
    }

    int on(NotePool x, int... a) {
        return switch (this) {
            case HASH -> x.hash(a[0], a[1]);
            case DEPOSIT -> x.deposit(a[0], a[1], a[2]);
            case LOAD -> x.load(a[0], a[1], a[2], a[3], a[4]);
            case SET -> x.set(a[0], a[1]) ? 1 : 0;
            case GET -> x.get(a[0]);
            case FAULT -> x.fault();
            case SUBMIT -> x.submit();
            case NOTES -> x.notes();
            case COMMITMENT -> x.commitment(a[0]);
            case OWNER -> x.owner(a[0]);
            case VALUE -> x.value(a[0]);
            case UNSPENT -> x.unspent(a[0]) ? 1 : 0;
            case BALANCE -> x.balance(a[0]);
            case ROOT -> x.root(a[0]);
            case NODE -> x.node(a[0], a[1]);
            case USED -> x.used();
            case MARK -> x.mark(a[0]);
            case POOL -> x.pool();
        };
    }

    int on(Reference r, int... a) {
        return switch (this) {
            case HASH -> r.hash(a[0], a[1]);
            case DEPOSIT -> r.deposit(a[0], a[1], a[2]);
            case LOAD -> r.load(a[0], a[1], a[2], a[3], a[4]);
            case SET -> r.set(a[0], a[1]) ? 1 : 0;
            case GET -> r.get(a[0]);
            case FAULT -> r.fault();
            case SUBMIT -> r.submit();
            case NOTES -> r.notes();
            case COMMITMENT -> r.commitment(a[0]);
            case OWNER -> r.owner(a[0]);
            case VALUE -> r.value(a[0]);
            case UNSPENT -> r.unspent(a[0]) ? 1 : 0;
            case BALANCE -> r.balance(a[0]);
            case ROOT -> r.root(a[0]);
            case NODE -> r.node(a[0], a[1]);
            case USED -> r.used();
            case MARK -> r.mark(a[0]);
            case POOL -> r.pool();
        };
    }

    /** As the document's reader would write it. */
    String text(int... a) {
        StringBuilder text = new StringBuilder(name().toLowerCase()).append('(');
        for (int i = 0; i < a.length; i++) {
            text.append(i == 0 ? "" : ", ").append(a[i]);
        }
        return text.append(')').toString();
    }
}
