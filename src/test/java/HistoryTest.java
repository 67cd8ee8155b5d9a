/** Promises 18 to 20 and the section "Actions and history": undo, save, restore. */
public final class HistoryTest {
    private final Checks checks = new Checks();
    private SavepointStore store;

    private HistoryTest() {
    }

    public static void main(String[] args) {
        HistoryTest test = new HistoryTest();
        test.promise18Undo();
        test.promise18FiveStates();
        test.promise18WholeState();
        test.promise18TextAndSnapshotStay();
        test.promise18WhatIsAnAction();
        test.promise18ErrorsLeaveTheHistory();
        test.promise18ValuesBeforeChanges();
        test.promise19Save();
        test.promise20Restore();
        test.promise20WholeState();
        test.checks.end();
    }

    private void due(String call, long got, long want) {
        checks.due(call, got, want);
    }

    private void promise18Undo() {
        store = new SavepointStore();
        due("undo of nothing", store.undo(), SavepointStore.NONE);
        store.begin(0);
        store.write(0, 0, 1);
        store.write(0, 0, 2);
        due("undo", store.undo(), 2);
        due("value(0)", store.value(0), 1);
        due("undo", store.undo(), 1);
        due("value(0)", store.value(0), SavepointStore.NONE);
        due("mode(0, 0)", store.mode(0, 0), 0);
        store.write(0, 0, 3);
        due("undo behind a new action", store.undo(), 1);
        due("session(0, 0)", store.session(0, 0), 1);
        due("undo", store.undo(), 0);
        due("session(0, 0)", store.session(0, 0), 0);
        due("undo of nothing", store.undo(), SavepointStore.NONE);
        due("undo is no action", store.undo(), SavepointStore.NONE);
    }

    private void promise18FiveStates() {
        for (int actions = 0; actions <= 20; actions++) {
            store = new SavepointStore();
            store.begin(0);
            for (int i = 0; i < actions; i++) {
                store.write(0, 0, i);
            }
            int states = Math.min(actions + 1, 5);
            for (int left = states - 1; left >= 0; left--) {
                due("undo", store.undo(), left);
                int undone = states - left;
                int value = actions - undone - 1;
                due("value(0)", store.value(0), value >= 0 ? value : SavepointStore.NONE);
            }
            due("undo of nothing", store.undo(), SavepointStore.NONE);
        }
    }

    private void fillState() {
        store = new SavepointStore();
        store.begin(0);
        store.begin(1);
        store.write(0, 1, 10);
        store.write(0, 2, 10);
        store.commit(0);
        store.begin(0);
        store.read(1, 7);
        store.savepoint(0, 3);
        store.write(0, 1, 11);
        store.savepoint(0, 4);
        store.write(0, 1, 12);
        store.read(1, 1);
        store.shift(0, 1, 1);
        store.rollback(1);
        store.begin(2);
        store.keep(true);
    }

    private void dueFilledState() {
        due("value(1)", store.value(1), 12);
        due("value(2)", store.value(2), 10);
        due("value(3)", store.value(3), SavepointStore.NONE);
        due("committed(1)", store.committed(1), 10);
        due("session(0, 0)", store.session(0, 0), 1);
        due("session(0, 1)", store.session(0, 1), 2);
        due("session(0, 2)", store.session(0, 2), 1);
        due("session(0, 4)", store.session(0, 4), 1);
        due("session(1, 0)", store.session(1, 0), 0);
        due("session(2, 0)", store.session(2, 0), 1);
        due("nameOf(0, 0)", store.nameOf(0, 0), 3);
        due("nameOf(0, 1)", store.nameOf(0, 1), 4);
        due("changedSince(0, 0, false)", store.changedSince(0, 0, false), 2);
        due("changedSince(0, 1, false)", store.changedSince(0, 1, false), 2);
        due("changedSince(0, 0, true)", store.changedSince(0, 0, true), 2);
        due("changedSince(0, 1, true)", store.changedSince(0, 1, true), 0);
        due("ifUndone(0, 3, 1)", store.ifUndone(0, 3, 1), 10);
        due("ifUndone(0, 4, 1)", store.ifUndone(0, 4, 1), 11);
        int[] totals = {1, 1, 5, 1, 1, 0, 2};
        for (int what = 0; what < totals.length; what++) {
            due("total(" + what + ")", store.total(what), totals[what]);
        }
    }

    private void disturb() {
        store.undoTo(0, 3);
        store.commit(0);
        store.keep(false);
        store.begin(0);
        store.write(0, 1, 99);
        store.write(0, 3, 99);
        store.savepoint(0, 7);
        store.savepoint(0, 7);
        store.savepoint(0, 7);
    }

    private void promise18WholeState() {
        fillState();
        store.commit(0);
        store.undo();
        dueFilledState();
        store.rollback(0);
        store.undo();
        dueFilledState();
        store.undoTo(0, 3);
        store.keep(false);
        store.write(2, 8, 1);
        store.undo();
        store.undo();
        store.undo();
        dueFilledState();
        due("keep", store.keep(false), 1);
        store.release(0, 3);
        store.undo();
        dueFilledState();
    }

    private void promise18TextAndSnapshotStay() {
        store = new SavepointStore();
        store.begin(0);
        store.write(0, 0, 1);
        Checks.type(store, "0e0");
        store.save();
        due("undo", store.undo(), 1);
        due("the text stays", store.fault(), SavepointStore.NONE);
        due("the snapshot stays", store.restore(), 1);
        due("value(0)", store.value(0), 1);
        due("undo of restore", store.undo(), 1);
        due("value(0)", store.value(0), SavepointStore.NONE);
        due("the length", store.clearText(), 3);
    }

    private void promise18WhatIsAnAction() {
        for (int call = 0; call < 14; call++) {
            prepare();
            String before = state();
            int answer = action(call);
            checks.holds("action " + call + " is possible", answer >= 0);
            due("undo of action " + call, store.undo(), 4);
            checks.holds("action " + call + " is undone", state().equals(before));
        }
        prepare();
        noActions();
        due("errors, text, save and queries are no actions", store.undo(), 3);
    }

    /** What the queries tell. */
    private String state() {
        StringBuilder text = new StringBuilder();
        for (int what = 0; what < 7; what++) {
            text.append(store.total(what)).append(' ');
        }
        for (int key = 0; key < 16; key++) {
            text.append(store.value(key)).append(' ').append(store.committed(key)).append(' ');
            for (int session = 0; session < 3; session++) {
                text.append(store.mode(session, key)).append(' ');
            }
        }
        for (int session = 0; session < 3; session++) {
            for (int what = 0; what < 5; what++) {
                text.append(store.session(session, what)).append(' ');
            }
            for (int savepoint = 0; savepoint < 12; savepoint++) {
                text.append(store.nameOf(session, savepoint)).append(' ');
                text.append(store.changedSince(session, savepoint, true)).append(' ');
                text.append(store.changedSince(session, savepoint, false)).append(' ');
            }
        }
        return text.toString();
    }

    /** An error behind a full history leaves its oldest state as it is. */
    private void promise18ErrorsLeaveTheHistory() {
        store = new SavepointStore();
        store.begin(0);
        for (int value = 1; value <= 6; value++) {
            store.write(0, 0, value);
        }
        for (int left = 5; left > 0; left--) {
            store.begin(0);
            store.write(0, 0, -1);
            store.restore();
            store.perform();
            due("value(0)", store.value(0), left + 1);
            due("undo", store.undo(), left - 1);
            due("value(0)", store.value(0), left);
        }
    }

    /** The values before a change are part of the state, also where other changes came since. */
    private void promise18ValuesBeforeChanges() {
        store = new SavepointStore();
        store.begin(0);
        store.write(0, 0, 1);
        store.commit(0);
        store.begin(0);
        store.write(0, 0, 2);
        store.save();
        store.commit(0);
        store.begin(0);
        store.write(0, 0, 3);
        due("committed(0)", store.committed(0), 2);
        store.restore();
        due("committed(0) behind restore", store.committed(0), 1);
        due("undo", store.undo(), 4);
        due("committed(0) behind undo", store.committed(0), 2);
        store.restore();
        due("rollback behind restore", store.rollback(0), 1);
        due("value(0)", store.value(0), 1);
    }

    /** Four actions, so that the history has room for just one more. */
    private void prepare() {
        store = new SavepointStore();
        store.begin(0);
        store.begin(1);
        store.write(0, 0, 1);
        store.savepoint(0, 0);
        Checks.type(store, "0g0");
        store.save();
    }

    private int action(int call) {
        switch (call) {
            case 0:
                return store.keep(false);
            case 1:
                return store.begin(2);
            case 2:
                return store.commit(1);
            case 3:
                return store.rollback(1);
            case 4:
                return store.savepoint(0, 0);
            case 5:
                return store.undoTo(0, 0);
            case 6:
                return store.release(0, 0);
            case 7:
                return store.read(0, 0);
            case 8:
                return store.write(0, 0, 5);
            case 9:
                return store.erase(0, 0);
            case 10:
                return store.shift(0, 1, 0);
            case 11:
                return store.move(0, 0, 1, 1);
            case 12:
                return store.perform();
            default:
                return store.restore();
        }
    }

    private void noActions() {
        store.begin(0);
        store.commit(2);
        store.rollback(2);
        store.savepoint(0, 8);
        store.undoTo(0, 1);
        store.release(0, 1);
        store.read(0, 16);
        store.write(0, 0, -1);
        store.erase(2, 0);
        store.shift(0, 0, 0);
        store.move(0, 0, 0, 1);
        store.append('0');
        store.perform();
        store.clearText();
        store.fault();
        store.save();
        store.value(0);
        store.committed(0);
        store.mode(0, 0);
        store.busyFor(0, 1);
        store.session(0, 0);
        store.nameOf(0, 0);
        store.nearest(0, 0);
        store.changedSince(0, 0, true);
        store.ifUndone(0, 0, 0);
        store.total(0);
        store.mean();
    }

    private void promise19Save() {
        store = new SavepointStore();
        due("save of an empty store", store.save(), 0);
        store.begin(0);
        store.write(0, 0, 0);
        store.write(0, 15, 1);
        due("save", store.save(), 2);
        store.erase(0, 0);
        due("the old snapshot is replaced", store.save(), 1);
        due("save is no action", store.undo(), 3);
        due("value(0)", store.value(0), 0);
        due("restore", store.restore(), 1);
        due("value(0)", store.value(0), SavepointStore.NONE);
    }

    private void promise20Restore() {
        store = new SavepointStore();
        due("restore without a snapshot", store.restore(), SavepointStore.NOT_POSSIBLE);
        due("it is no action", store.undo(), SavepointStore.NONE);
        store.begin(0);
        store.write(0, 0, 1);
        store.save();
        store.write(0, 0, 2);
        store.write(0, 1, 2);
        due("restore", store.restore(), 1);
        due("value(0)", store.value(0), 1);
        due("value(1)", store.value(1), SavepointStore.NONE);
        store.write(0, 0, 3);
        due("the snapshot remains", store.restore(), 1);
        due("value(0)", store.value(0), 1);
        due("restore without a change", store.restore(), 1);
        due("undo", store.undo(), 4);
        due("value(0)", store.value(0), 1);
        due("undo of restore", store.undo(), 3);
        due("value(0)", store.value(0), 3);
    }

    private void promise20WholeState() {
        fillState();
        store.save();
        disturb();
        store.restore();
        dueFilledState();
        due("keep", store.keep(true), 1);
        disturb();
        store.restore();
        dueFilledState();
        due("undoTo(0, 4)", store.undoTo(0, 4), 1);
        due("undoTo(0, 3)", store.undoTo(0, 3), 1);
        due("rollback(0)", store.rollback(0), 0);
        due("value(1)", store.value(1), 10);
        store.restore();
        dueFilledState();
    }
}
