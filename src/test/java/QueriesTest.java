/** Promises 21 to 31: the queries. */
public final class QueriesTest {
    private static final int NONE = SavepointStore.NONE;
    private static final int NO_SUCH = SavepointStore.NO_SUCH;
    private static final int BAD_VALUE = SavepointStore.BAD_VALUE;
    private static final int NOT_POSSIBLE = SavepointStore.NOT_POSSIBLE;

    private final Checks checks = new Checks();
    private SavepointStore store;

    private QueriesTest() {
    }

    public static void main(String[] args) {
        QueriesTest test = new QueriesTest();
        test.promise21Value();
        test.promise22Committed();
        test.promise23Mode();
        test.promise24BusyFor();
        test.promise25Session();
        test.promise26NameOf();
        test.promise27Nearest();
        test.promise28ChangedSince();
        test.promise29IfUndone();
        test.promise30Total();
        test.promise31Mean();
        test.queriesChangeNothing();
        test.checks.end();
    }

    private void due(String call, long got, long want) {
        checks.due(call, got, want);
    }

    private void open(int... sessions) {
        store = new SavepointStore();
        for (int session : sessions) {
            store.begin(session);
        }
    }

    private void promise21Value() {
        open(0);
        int[] wrong = {-1, 16, Integer.MIN_VALUE, Integer.MAX_VALUE};
        for (int key : wrong) {
            due("value(" + key + ")", store.value(key), NO_SUCH);
        }
        store.write(0, 0, 0);
        store.write(0, 15, 9999);
        due("value(0)", store.value(0), 0);
        due("value(15)", store.value(15), 9999);
        due("value(14)", store.value(14), NONE);
        store.commit(0);
        due("value(15)", store.value(15), 9999);
    }

    private void promise22Committed() {
        open(0, 1, 2);
        due("committed(-1)", store.committed(-1), NO_SUCH);
        due("committed(16)", store.committed(16), NO_SUCH);
        store.write(0, 3, 30);
        store.write(1, 4, 40);
        due("committed(3)", store.committed(3), NONE);
        due("committed(4)", store.committed(4), NONE);
        store.commit(0);
        due("committed(3)", store.committed(3), 30);
        store.begin(0);
        store.write(2, 3, 31);
        store.savepoint(2, 0);
        store.write(2, 3, 32);
        due("committed(3)", store.committed(3), 30);
        store.undoTo(2, 0);
        due("committed(3)", store.committed(3), 30);
        store.erase(2, 3);
        due("committed(3)", store.committed(3), 30);
        store.release(2, 0);
        due("committed(3)", store.committed(3), 30);
        store.rollback(2);
        due("committed(3)", store.committed(3), 30);
        store.erase(0, 3);
        due("value(3)", store.value(3), NONE);
        due("committed(3)", store.committed(3), 30);
        store.commit(0);
        due("committed(3)", store.committed(3), NONE);
        due("a key that nobody has changed", store.committed(9), NONE);
    }

    private void promise23Mode() {
        open(0, 2);
        due("mode(-1, 0)", store.mode(-1, 0), NO_SUCH);
        due("mode(3, 0)", store.mode(3, 0), NO_SUCH);
        due("mode(0, -1)", store.mode(0, -1), NO_SUCH);
        due("mode(0, 16)", store.mode(0, 16), NO_SUCH);
        for (int key = 0; key < 16; key++) {
            due("mode(0, " + key + ")", store.mode(0, key), 0);
            store.read(0, key);
            due("mode(0, " + key + ")", store.mode(0, key), 1);
            store.erase(0, key);
            due("mode(0, " + key + ")", store.mode(0, key), 2);
            due("mode(2, " + key + ")", store.mode(2, key), 0);
        }
    }

    private void promise24BusyFor() {
        open(0, 1);
        due("busyFor(-1, 1)", store.busyFor(-1, 1), NO_SUCH);
        due("busyFor(16, 0)", store.busyFor(16, 0), NO_SUCH);
        due("busyFor(0, 0)", store.busyFor(0, 0), BAD_VALUE);
        due("busyFor(0, 3)", store.busyFor(0, 3), BAD_VALUE);
        due("busyFor(0, -1)", store.busyFor(0, -1), BAD_VALUE);
        due("a free key, 1", store.busyFor(0, 1), 0);
        due("a free key, 2", store.busyFor(0, 2), 0);
        store.read(0, 0);
        due("shared by 0, 1", store.busyFor(0, 1), 0);
        due("shared by 0, 2, also session 2", store.busyFor(0, 2), 6);
        store.read(1, 0);
        due("shared by two, 1", store.busyFor(0, 1), 0);
        due("shared by two, 2", store.busyFor(0, 2), 7);
        store.write(1, 15, 1);
        due("exclusive to 1, 1", store.busyFor(15, 1), 5);
        due("exclusive to 1, 2", store.busyFor(15, 2), 5);
        due("nobody is locked by it", store.session(0, 3), 1);
    }

    private void promise25Session() {
        store = new SavepointStore();
        due("session(-1, 9)", store.session(-1, 9), NO_SUCH);
        due("session(3, 0)", store.session(3, 0), NO_SUCH);
        due("session(0, -1)", store.session(0, -1), BAD_VALUE);
        due("session(0, 5)", store.session(0, 5), BAD_VALUE);
        store.begin(1);
        store.write(1, 0, 1);
        store.write(1, 15, 1);
        store.erase(1, 14);
        store.savepoint(1, 0);
        store.write(1, 0, 1);
        store.read(1, 5);
        store.read(1, 0);
        int[] numbers = {1, 1, 3, 1, 3};
        for (int what = 0; what < 5; what++) {
            due("session(1, " + what + ")", store.session(1, what), numbers[what]);
            due("session(0, " + what + ")", store.session(0, what), 0);
        }
        due("session(1, 5)", store.session(1, 5), BAD_VALUE);
    }

    private void promise26NameOf() {
        open(0);
        store.savepoint(0, 7);
        store.savepoint(0, 0);
        due("nameOf(0, 0)", store.nameOf(0, 0), 7);
        due("nameOf(0, 1)", store.nameOf(0, 1), 0);
        due("nameOf(0, 2)", store.nameOf(0, 2), NO_SUCH);
        due("nameOf(0, -1)", store.nameOf(0, -1), NO_SUCH);
        due("nameOf(0, MAX)", store.nameOf(0, Integer.MAX_VALUE), NO_SUCH);
        due("nameOf(1, 0)", store.nameOf(1, 0), NO_SUCH);
        due("nameOf(-1, 0)", store.nameOf(-1, 0), NO_SUCH);
        due("nameOf(3, 0)", store.nameOf(3, 0), NO_SUCH);
        store.release(0, 0);
        due("a released one", store.nameOf(0, 1), NO_SUCH);
        store.savepoint(0, 3);
        due("the new one", store.nameOf(0, 1), 3);
    }

    private void promise27Nearest() {
        open(2);
        due("nearest(-1, 8)", store.nearest(-1, 8), NO_SUCH);
        due("nearest(3, 0)", store.nearest(3, 0), NO_SUCH);
        due("nearest(2, -1)", store.nearest(2, -1), BAD_VALUE);
        due("nearest(2, 8)", store.nearest(2, 8), BAD_VALUE);
        due("nearest(0, 0)", store.nearest(0, 0), NONE);
        due("nearest(2, 0)", store.nearest(2, 0), NONE);
        store.savepoint(2, 7);
        store.savepoint(2, 6);
        store.savepoint(2, 7);
        store.savepoint(2, 5);
        due("nearest(2, 7)", store.nearest(2, 7), 2);
        due("nearest(2, 6)", store.nearest(2, 6), 1);
        due("nearest(2, 5)", store.nearest(2, 5), 3);
        due("nearest(2, 0)", store.nearest(2, 0), NONE);
        due("nearest(1, 7)", store.nearest(1, 7), NONE);
        store.release(2, 7);
        due("nearest(2, 7)", store.nearest(2, 7), 0);
        due("nearest(2, 5)", store.nearest(2, 5), NONE);
        store.rollback(2);
        due("nearest(2, 7)", store.nearest(2, 7), NONE);
    }

    private void promise28ChangedSince() {
        open(0, 1);
        due("without savepoints", store.changedSince(0, 0, true), NO_SUCH);
        store.read(0, 3);
        store.write(0, 15, 1);
        store.savepoint(0, 0);
        store.write(0, 15, 1);
        store.savepoint(0, 0);
        store.write(0, 3, 2);
        store.erase(0, 0);
        store.read(0, 7);
        due("values since 0", store.changedSince(0, 0, false), 1 << 15 | 1 << 3 | 1);
        due("values since 1", store.changedSince(0, 1, false), 1 << 3 | 1);
        due("locks since 0", store.changedSince(0, 0, true), 1 << 7 | 1 << 3 | 1);
        due("locks since 1", store.changedSince(0, 1, true), 1 << 7 | 1 << 3 | 1);
        due("no such savepoint", store.changedSince(0, 2, false), NO_SUCH);
        due("no such savepoint", store.changedSince(0, -1, false), NO_SUCH);
        due("no such savepoint", store.changedSince(1, 0, false), NO_SUCH);
        due("no such session", store.changedSince(-1, 0, false), NO_SUCH);
        due("no such session", store.changedSince(3, 0, true), NO_SUCH);
        store.savepoint(0, 0);
        store.write(0, 1, 1);
        due("a lock of the key 15", store.changedSince(0, 2, true), 2);
        store.savepoint(1, 0);
        store.read(1, 14);
        store.write(1, 14, 1);
        due("another session", store.changedSince(1, 0, true), 1 << 14);
        due("another session", store.changedSince(1, 0, false), 1 << 14);
        due("not of this one", store.changedSince(0, 2, false), 2);
    }

    private void promise29IfUndone() {
        open(0, 1);
        due("ifUndone(-1, 8, 0)", store.ifUndone(-1, 8, 0), NO_SUCH);
        due("ifUndone(3, 0, 0)", store.ifUndone(3, 0, 0), NO_SUCH);
        due("ifUndone(0, 8, 16)", store.ifUndone(0, 8, 16), NO_SUCH);
        due("ifUndone(0, 0, -1)", store.ifUndone(0, 0, -1), NO_SUCH);
        due("ifUndone(0, 8, 0)", store.ifUndone(0, 8, 0), BAD_VALUE);
        due("ifUndone(0, -1, 0)", store.ifUndone(0, -1, 0), BAD_VALUE);
        due("ifUndone(0, 0, 0)", store.ifUndone(0, 0, 0), NOT_POSSIBLE);
        due("ifUndone(2, 0, 0)", store.ifUndone(2, 0, 0), NOT_POSSIBLE);
        store.write(0, 0, 1);
        store.savepoint(0, 4);
        store.write(0, 0, 2);
        store.write(0, 1, 5);
        store.savepoint(0, 5);
        store.write(0, 0, 3);
        store.savepoint(0, 4);
        store.erase(0, 0);
        store.write(1, 9, 90);
        due("ifUndone(0, 4, 0)", store.ifUndone(0, 4, 0), 3);
        due("ifUndone(0, 5, 0)", store.ifUndone(0, 5, 0), 2);
        due("ifUndone(0, 5, 1)", store.ifUndone(0, 5, 1), 5);
        due("ifUndone(0, 5, 9)", store.ifUndone(0, 5, 9), 90);
        due("ifUndone(0, 5, 8)", store.ifUndone(0, 5, 8), NONE);
        store.release(0, 4);
        due("ifUndone(0, 4, 0)", store.ifUndone(0, 4, 0), 1);
        due("ifUndone(0, 4, 1)", store.ifUndone(0, 4, 1), NONE);
        due("nothing is undone", store.value(0), NONE);
        due("total(5)", store.total(5), 0);
    }

    private void promise30Total() {
        open(0, 1);
        due("total(-1)", store.total(-1), NO_SUCH);
        due("total(7)", store.total(7), NO_SUCH);
        due("total(MAX)", store.total(Integer.MAX_VALUE), NO_SUCH);
        store.read(0, 0);
        store.write(0, 0, 1);
        store.erase(0, 1);
        store.shift(0, 1, 5);
        store.move(0, 0, 1, 2);
        due("total(2)", store.total(2), 5);
        store.read(1, 0);
        store.write(1, 0, 1);
        store.erase(1, 0);
        store.shift(1, 1, 1);
        store.move(1, 0, 2, 1);
        due("total(3)", store.total(3), 5);
        store.shift(0, 8, 1);
        store.move(0, 8, 1, 1);
        store.move(0, 0, 1, 9999);
        due("total(4)", store.total(4), 3);
        Checks.perform(store, "0sa;0sb;0ua;0g0;0w3=3;1g0");
        store.savepoint(0, 2);
        store.undoTo(0, 2);
        store.undoTo(0, 7);
        store.savepoint(0, 9);
        due("total(2)", store.total(2), 7);
        due("total(3)", store.total(3), 6);
        due("total(4)", store.total(4), 3);
        due("total(5)", store.total(5), 2);
        due("total(6)", store.total(6), 3);
        Checks.perform(store, "0c;1r;2b;2c;2b");
        store.rollback(2);
        store.rollback(2);
        store.commit(2);
        due("total(0)", store.total(0), 2);
        due("total(1)", store.total(1), 2);
    }

    private void promise31Mean() {
        open(0);
        checks.dueDouble("mean of nothing", store.mean(), 0.0);
        store.write(0, 0, 0);
        checks.dueDouble("mean of 0", store.mean(), 0.0);
        store.write(0, 0, 7);
        checks.dueDouble("mean of 7", store.mean(), 7.0);
        store.write(0, 0, 0);
        store.write(0, 15, 1);
        checks.dueDouble("mean of 0 and 1", store.mean(), 0.5);
        store.write(0, 3, 9999);
        checks.dueDouble("mean of 0, 1 and 9999", store.mean(), 10000.0 / 3);
        store.erase(0, 0);
        checks.dueDouble("mean of 1 and 9999", store.mean(), 5000.0);
        store.write(0, 3, 1);
        store.write(0, 4, 3);
        checks.dueDouble("mean of 1, 1 and 3", store.mean(), 5.0 / 3);
        store.rollback(0);
        checks.dueDouble("mean of nothing", store.mean(), 0.0);
        store.begin(0);
        for (int key = 0; key < 16; key++) {
            store.write(0, key, 9999);
        }
        checks.dueDouble("mean of the greatest values", store.mean(), 9999.0);
    }

    private void queriesChangeNothing() {
        open(0, 1);
        store.write(0, 0, 5);
        store.savepoint(0, 0);
        store.write(0, 0, 6);
        store.ifUndone(0, 0, 0);
        store.busyFor(0, 2);
        store.committed(0);
        store.value(1);
        due("value(0)", store.value(0), 6);
        due("mode(1, 0)", store.mode(1, 0), 0);
        due("mode(1, 1)", store.mode(1, 1), 0);
        due("changedSince", store.changedSince(0, 0, false), 1);
        due("total(2)", store.total(2), 2);
        due("undo", store.undo(), 4);
    }
}
