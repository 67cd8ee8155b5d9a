/** Promises 1 to 5: a new object, keep, begin, commit, rollback. */
public final class TransactionsTest {
    private final Checks checks = new Checks();
    private SavepointStore store;

    private TransactionsTest() {
    }

    public static void main(String[] args) {
        TransactionsTest test = new TransactionsTest();
        test.promise1NewObject();
        test.promise1ObjectsAreApart();
        test.promise2Keep();
        test.promise3Begin();
        test.promise4Commit();
        test.promise4CommitEndsAll();
        test.promise5Rollback();
        test.promise5RollbackUnderKeep();
        test.checks.end();
    }

    private void due(String call, long got, long want) {
        checks.due(call, got, want);
    }

    private void promise1NewObject() {
        store = new SavepointStore();
        for (int key = 0; key < 16; key++) {
            due("value", store.value(key), SavepointStore.NONE);
            due("committed", store.committed(key), SavepointStore.NONE);
            for (int session = 0; session < 3; session++) {
                due("mode", store.mode(session, key), 0);
            }
        }
        for (int session = 0; session < 3; session++) {
            for (int what = 0; what < 5; what++) {
                due("session", store.session(session, what), 0);
            }
        }
        for (int what = 0; what < 7; what++) {
            due("total", store.total(what), 0);
        }
        checks.dueDouble("mean", store.mean(), 0.0);
        due("fault", store.fault(), 0);
        due("clearText", store.clearText(), 0);
        due("undo", store.undo(), SavepointStore.NONE);
        due("restore", store.restore(), SavepointStore.NOT_POSSIBLE);
        due("keep", store.keep(false), 0);
    }

    private void promise1ObjectsAreApart() {
        store = new SavepointStore();
        SavepointStore other = new SavepointStore();
        other.begin(0);
        other.write(0, 0, 1);
        other.append('0');
        other.save();
        due("value of an untouched store", store.value(0), SavepointStore.NONE);
        due("undo of an untouched store", store.undo(), SavepointStore.NONE);
        due("fault of an untouched store", store.fault(), 0);
        due("restore of an untouched store", store.restore(), SavepointStore.NOT_POSSIBLE);
    }

    private void promise2Keep() {
        store = new SavepointStore();
        due("keep(true)", store.keep(true), 0);
        due("keep(true) again", store.keep(true), 1);
        due("keep(false)", store.keep(false), 1);
        due("keep(false) again", store.keep(false), 0);
        due("each keep is an action", Checks.emptyHistory(store), 4);
    }

    private void promise3Begin() {
        store = new SavepointStore();
        due("begin(-1)", store.begin(-1), SavepointStore.NO_SUCH);
        due("begin(3)", store.begin(3), SavepointStore.NO_SUCH);
        due("begin(MIN)", store.begin(Integer.MIN_VALUE), SavepointStore.NO_SUCH);
        due("begin(MAX)", store.begin(Integer.MAX_VALUE), SavepointStore.NO_SUCH);
        due("begin(2)", store.begin(2), 1);
        due("begin(0)", store.begin(0), 2);
        due("begin(0) again", store.begin(0), SavepointStore.NOT_POSSIBLE);
        due("begin(1)", store.begin(1), 3);
        due("rollback(0)", store.rollback(0), 0);
        due("begin(0) behind rollback", store.begin(0), 3);
        due("errors are no actions", Checks.emptyHistory(store), 5);
    }

    private void promise4Commit() {
        store = new SavepointStore();
        due("commit(-1)", store.commit(-1), SavepointStore.NO_SUCH);
        due("commit(3)", store.commit(3), SavepointStore.NO_SUCH);
        due("commit(0) without begin", store.commit(0), SavepointStore.NOT_POSSIBLE);
        due("errors are no actions", store.undo(), SavepointStore.NONE);
        store.begin(0);
        due("commit without a change", store.commit(0), 0);
        due("commit twice", store.commit(0), SavepointStore.NOT_POSSIBLE);

        store.begin(0);
        store.write(0, 0, 10);
        store.write(0, 1, 11);
        store.write(0, 15, 12);
        due("commit of values instead of none", store.commit(0), 3);

        store.begin(0);
        store.write(0, 0, 10);
        store.write(0, 1, 50);
        store.write(0, 1, 11);
        store.savepoint(0, 0);
        store.write(0, 2, 1);
        store.erase(0, 2);
        store.erase(0, 15);
        store.read(0, 3);
        due("the same value is no other one, none is", store.commit(0), 1);
        due("a committed value", store.committed(0), 10);
        due("an erased value", store.committed(15), SavepointStore.NONE);

        store.begin(1);
        store.write(1, 0, 7);
        store.savepoint(1, 0);
        store.write(1, 1, 7);
        store.undoTo(1, 0);
        due("an undone change does not count", store.commit(1), 1);
        due("total(0)", store.total(0), 4);
        due("total(1)", store.total(1), 0);
    }

    private void promise4CommitEndsAll() {
        store = new SavepointStore();
        store.begin(0);
        store.begin(1);
        store.write(0, 4, 44);
        store.read(0, 5);
        store.savepoint(0, 3);
        store.savepoint(1, 2);
        store.read(1, 6);
        store.commit(0);
        due("the value stays", store.value(4), 44);
        for (int what = 0; what < 5; what++) {
            due("session(0, " + what + ")", store.session(0, what), 0);
        }
        due("mode(0, 4)", store.mode(0, 4), 0);
        due("mode(0, 5)", store.mode(0, 5), 0);
        due("nearest(0, 3)", store.nearest(0, 3), SavepointStore.NONE);
        due("the other session's mode", store.mode(1, 6), 1);
        due("the other session's savepoint", store.nearest(1, 2), 0);
        due("the key is free", store.write(1, 4, 45), 44);
        store.begin(0);
        for (int what = 1; what < 5; what++) {
            due("a new transaction's session(0, " + what + ")", store.session(0, what), 0);
        }
        due("nothing of the old one is undone", store.rollback(0), 0);
        due("value(4)", store.value(4), 45);
    }

    private void promise5Rollback() {
        store = new SavepointStore();
        due("rollback(-1)", store.rollback(-1), SavepointStore.NO_SUCH);
        due("rollback(3)", store.rollback(3), SavepointStore.NO_SUCH);
        due("rollback(1) without begin", store.rollback(1), SavepointStore.NOT_POSSIBLE);
        due("errors are no actions", store.undo(), SavepointStore.NONE);
        store.begin(1);
        store.write(1, 0, 100);
        store.write(1, 1, 101);
        store.commit(1);

        store.begin(1);
        store.begin(2);
        store.write(2, 9, 99);
        store.write(1, 0, 200);
        store.savepoint(1, 0);
        store.write(1, 0, 300);
        store.erase(1, 1);
        store.write(1, 2, 5);
        store.savepoint(1, 1);
        store.write(1, 3, 6);
        store.erase(1, 3);
        store.read(1, 4);
        due("rollback", store.rollback(1), 3);
        due("value(0)", store.value(0), 100);
        due("value(1)", store.value(1), 101);
        due("value(2)", store.value(2), SavepointStore.NONE);
        due("value(3)", store.value(3), SavepointStore.NONE);
        due("another session's change stays", store.value(9), 99);
        for (int what = 0; what < 5; what++) {
            due("session(1, " + what + ")", store.session(1, what), 0);
        }
        due("mode(1, 0)", store.mode(1, 0), 0);
        due("rollback twice", store.rollback(1), SavepointStore.NOT_POSSIBLE);
        due("total(0)", store.total(0), 1);
        due("total(1)", store.total(1), 1);
        store.begin(1);
        store.write(1, 0, 100);
        due("the same value is no other one", store.rollback(1), 0);
        due("total(1)", store.total(1), 2);
    }

    private void promise5RollbackUnderKeep() {
        store = new SavepointStore();
        store.keep(true);
        store.begin(0);
        store.write(0, 1, 1);
        store.read(0, 2);
        due("rollback", store.rollback(0), 1);
        due("no lock is left", store.mode(0, 1), 0);
        due("no lock is left", store.mode(0, 2), 0);
        due("begin", store.begin(0), 1);
        due("no lock comes back", store.session(0, 3) + store.session(0, 4), 0);
    }
}
