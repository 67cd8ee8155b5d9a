/** Promises 6 to 8 and the section "Savepoints": savepoint, undoTo, release. */
public final class SavepointsTest {
    private final Checks checks = new Checks();
    private SavepointStore store;

    private SavepointsTest() {
    }

    public static void main(String[] args) {
        SavepointsTest test = new SavepointsTest();
        test.promise6Savepoint();
        test.promise6Errors();
        test.promise7UndoTo();
        test.promise7NearestOfAName();
        test.promise7Errors();
        test.promise7ValuesKnownEarlier();
        test.promise7LocksGivenBack();
        test.promise7LocksKept();
        test.promise7LocksKeptThenGivenBack();
        test.promise8Release();
        test.promise8WhatIsKnownStays();
        test.promise8Errors();
        test.checks.end();
    }

    private void due(String call, long got, long want) {
        checks.due(call, got, want);
    }

    private void open(int session) {
        store = new SavepointStore();
        store.begin(session);
    }

    private void promise6Savepoint() {
        open(1);
        for (int number = 0; number < 12; number++) {
            due("savepoint", store.savepoint(1, number % 8), number);
            due("session(1, 1)", store.session(1, 1), number + 1);
        }
        for (int number = 0; number < 12; number++) {
            due("nameOf", store.nameOf(1, number), number % 8);
        }
        due("a thirteenth", store.savepoint(1, 0), SavepointStore.TOO_MANY);
        due("a thirteenth of a bad name", store.savepoint(1, 8), SavepointStore.BAD_VALUE);
        due("session(1, 1)", store.session(1, 1), 12);
        due("total(6)", store.total(6), 12);
        due("a statement with 12 savepoints", store.write(1, 0, 5), SavepointStore.NONE);
        due("what it changed", store.changedSince(1, 11, false), 1);
        due("a failing statement with 12 savepoints", store.shift(1, 3, 1), SavepointStore.FAILED);
        due("value(0)", store.value(0), 5);
        due("release", store.release(1, 3), 1);
        due("room again", store.savepoint(1, 6), 11);
        store.begin(2);
        due("another session counts for itself", store.savepoint(2, 0), 0);
    }

    private void promise6Errors() {
        store = new SavepointStore();
        due("savepoint(-1, 0)", store.savepoint(-1, 0), SavepointStore.NO_SUCH);
        due("savepoint(3, 9)", store.savepoint(3, 9), SavepointStore.NO_SUCH);
        due("savepoint(0, -1)", store.savepoint(0, -1), SavepointStore.BAD_VALUE);
        due("savepoint(0, 8)", store.savepoint(0, 8), SavepointStore.BAD_VALUE);
        due("savepoint(0, 7)", store.savepoint(0, 7), SavepointStore.NOT_POSSIBLE);
        due("errors are no actions", store.undo(), SavepointStore.NONE);
        due("total(6)", store.total(6), 0);
        store.begin(0);
        due("savepoint(0, 7)", store.savepoint(0, 7), 0);
    }

    private void promise7UndoTo() {
        open(0);
        store.write(0, 0, 10);
        store.write(0, 1, 20);
        store.savepoint(0, 2);
        store.write(0, 0, 11);
        store.savepoint(0, 3);
        store.write(0, 0, 12);
        store.erase(0, 1);
        store.write(0, 2, 30);
        store.write(0, 3, 1);
        store.erase(0, 3);
        due("undoTo(0, 2)", store.undoTo(0, 2), 3);
        due("value(0)", store.value(0), 10);
        due("value(1)", store.value(1), 20);
        due("value(2)", store.value(2), SavepointStore.NONE);
        due("value(3)", store.value(3), SavepointStore.NONE);
        due("the savepoint remains", store.session(0, 1), 1);
        due("the savepoint remains", store.nearest(0, 2), 0);
        due("the later one is gone", store.nearest(0, 3), SavepointStore.NONE);
        due("nothing is left to undo", store.undoTo(0, 2), 0);
        due("total(5)", store.total(5), 2);
        due("changedSince", store.changedSince(0, 0, false), 0);
        due("changes before it are still known", store.session(0, 2), 2);
        due("rollback", store.rollback(0), 2);
        due("value(0)", store.value(0), SavepointStore.NONE);
    }

    private void promise7NearestOfAName() {
        open(0);
        store.savepoint(0, 5);
        store.write(0, 0, 1);
        store.savepoint(0, 6);
        store.write(0, 0, 2);
        store.savepoint(0, 5);
        store.write(0, 0, 3);
        store.savepoint(0, 6);
        store.write(0, 0, 4);
        due("undoTo(0, 5)", store.undoTo(0, 5), 1);
        due("value(0)", store.value(0), 2);
        due("session(0, 1)", store.session(0, 1), 3);
        due("the nearest stays the nearest", store.undoTo(0, 5), 0);
        due("undoTo(0, 6)", store.undoTo(0, 6), 1);
        due("value(0)", store.value(0), 1);
        due("session(0, 1)", store.session(0, 1), 2);
        due("undoTo(0, 5)", store.undoTo(0, 5), 1);
        due("value(0)", store.value(0), SavepointStore.NONE);
        due("session(0, 1)", store.session(0, 1), 1);
    }

    private void promise7Errors() {
        store = new SavepointStore();
        due("undoTo(-1, 0)", store.undoTo(-1, 0), SavepointStore.NO_SUCH);
        due("undoTo(3, 8)", store.undoTo(3, 8), SavepointStore.NO_SUCH);
        due("undoTo(0, -1)", store.undoTo(0, -1), SavepointStore.BAD_VALUE);
        due("undoTo(0, 8)", store.undoTo(0, 8), SavepointStore.BAD_VALUE);
        due("undoTo without begin", store.undoTo(0, 0), SavepointStore.NOT_POSSIBLE);
        due("errors are no actions", store.undo(), SavepointStore.NONE);
        store.begin(0);
        store.savepoint(0, 1);
        due("undoTo another name", store.undoTo(0, 0), SavepointStore.NOT_POSSIBLE);
        store.begin(1);
        due("another session's name", store.undoTo(1, 1), SavepointStore.NOT_POSSIBLE);
        due("total(5)", store.total(5), 0);
    }

    /** A change that is undone is not known since an earlier moment either; an earlier one is. */
    private void promise7ValuesKnownEarlier() {
        open(0);
        store.write(0, 0, 1);
        store.savepoint(0, 0);
        store.write(0, 1, 2);
        store.savepoint(0, 1);
        store.write(0, 1, 3);
        store.write(0, 2, 4);
        due("since the first", store.changedSince(0, 0, false), 6);
        due("since the second", store.changedSince(0, 1, false), 6);
        store.undoTo(0, 1);
        due("since the first", store.changedSince(0, 0, false), 2);
        due("since the second", store.changedSince(0, 1, false), 0);
        due("since the beginning", store.session(0, 2), 2);
        due("value(1)", store.value(1), 2);
        store.write(0, 2, 9);
        due("since the first", store.changedSince(0, 0, false), 6);
        due("undoTo(0, 0)", store.undoTo(0, 0), 2);
        due("value(0)", store.value(0), 1);
        due("value(1)", store.value(1), SavepointStore.NONE);
        due("value(2)", store.value(2), SavepointStore.NONE);
    }

    private void promise7LocksGivenBack() {
        open(0);
        store.read(0, 0);
        store.write(0, 15, 1);
        store.savepoint(0, 0);
        store.write(0, 0, 1);
        store.read(0, 2);
        store.write(0, 2, 5);
        store.read(0, 3);
        due("since", store.changedSince(0, 0, true), 13);
        store.undoTo(0, 0);
        due("raised before, shared again", store.mode(0, 0), 1);
        due("mode(0, 2)", store.mode(0, 2), 0);
        due("mode(0, 3)", store.mode(0, 3), 0);
        due("mode(0, 15)", store.mode(0, 15), 2);
        due("since", store.changedSince(0, 0, true), 0);
        store.begin(1);
        due("a key given back is free", store.write(1, 2, 5), SavepointStore.NONE);
        due("a key that stays locked", store.write(1, 0, 5), SavepointStore.BUSY);
        due("a key locked before", store.read(1, 15), SavepointStore.BUSY);
    }

    private void promise7LocksKept() {
        open(0);
        store.keep(true);
        store.read(0, 1);
        store.savepoint(0, 0);
        store.write(0, 1, 7);
        store.savepoint(0, 1);
        store.write(0, 2, 8);
        due("undoTo(0, 0)", store.undoTo(0, 0), 2);
        due("mode(0, 1)", store.mode(0, 1), 2);
        due("mode(0, 2)", store.mode(0, 2), 2);
        due("the locks are still known", store.changedSince(0, 0, true), 6);
        due("the values are not", store.changedSince(0, 0, false), 0);
        store.begin(1);
        due("read(1, 2)", store.read(1, 2), SavepointStore.BUSY);
    }

    private void promise7LocksKeptThenGivenBack() {
        open(0);
        store.keep(true);
        store.read(0, 1);
        store.savepoint(0, 0);
        store.write(0, 1, 7);
        store.savepoint(0, 1);
        store.write(0, 2, 8);
        store.undoTo(0, 0);
        store.savepoint(0, 2);
        store.read(0, 3);
        store.keep(false);
        due("undoTo(0, 2)", store.undoTo(0, 2), 0);
        due("mode(0, 3)", store.mode(0, 3), 0);
        due("mode(0, 2)", store.mode(0, 2), 2);
        due("undoTo(0, 0)", store.undoTo(0, 0), 0);
        due("mode(0, 1)", store.mode(0, 1), 1);
        due("mode(0, 2)", store.mode(0, 2), 0);
    }

    private void promise8Release() {
        open(2);
        store.savepoint(2, 4);
        store.write(2, 0, 1);
        store.savepoint(2, 4);
        store.write(2, 0, 2);
        store.savepoint(2, 5);
        store.write(2, 0, 3);
        due("release(2, 4)", store.release(2, 4), 2);
        due("the value stays", store.value(0), 3);
        due("the lock stays", store.mode(2, 0), 2);
        due("session(2, 1)", store.session(2, 1), 1);
        due("the later one is gone", store.release(2, 5), SavepointStore.NOT_POSSIBLE);
        due("release(2, 4)", store.release(2, 4), 1);
        due("release(2, 4)", store.release(2, 4), SavepointStore.NOT_POSSIBLE);
        due("session(2, 1)", store.session(2, 1), 0);
        due("the beginning still knows", store.session(2, 2), 1);
        due("total(5)", store.total(5), 0);
        due("total(6) goes on", store.total(6), 3);
        due("rollback", store.rollback(2), 1);
        due("value(0)", store.value(0), SavepointStore.NONE);
    }

    private void promise8WhatIsKnownStays() {
        open(0);
        store.write(0, 0, 1);
        store.savepoint(0, 0);
        store.write(0, 0, 2);
        store.savepoint(0, 1);
        store.write(0, 0, 3);
        store.write(0, 1, 4);
        store.savepoint(0, 2);
        store.write(0, 1, 5);
        store.read(0, 2);
        due("release(0, 1)", store.release(0, 1), 2);
        due("values since the first", store.changedSince(0, 0, false), 3);
        due("locks since the first", store.changedSince(0, 0, true), 6);
        due("ifUndone(0, 0, 0)", store.ifUndone(0, 0, 0), 1);
        due("undoTo(0, 0)", store.undoTo(0, 0), 2);
        due("value(0)", store.value(0), 1);
        due("value(1)", store.value(1), SavepointStore.NONE);
        due("mode(0, 0)", store.mode(0, 0), 2);
        due("mode(0, 1)", store.mode(0, 1), 0);
        due("mode(0, 2)", store.mode(0, 2), 0);
    }

    private void promise8Errors() {
        store = new SavepointStore();
        due("release(-1, 0)", store.release(-1, 0), SavepointStore.NO_SUCH);
        due("release(3, -1)", store.release(3, -1), SavepointStore.NO_SUCH);
        due("release(0, -1)", store.release(0, -1), SavepointStore.BAD_VALUE);
        due("release(0, 8)", store.release(0, 8), SavepointStore.BAD_VALUE);
        due("release without begin", store.release(0, 7), SavepointStore.NOT_POSSIBLE);
        due("errors are no actions", store.undo(), SavepointStore.NONE);
        store.begin(0);
        due("release without a savepoint", store.release(0, 7), SavepointStore.NOT_POSSIBLE);
    }
}
