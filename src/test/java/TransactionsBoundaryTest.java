/** The boundary cases of promises 1 to 5: a new object, keep, begin, commit, rollback. */
public final class TransactionsBoundaryTest extends Cases {
    public static void main(String[] args) throws ReflectiveOperationException {
        new TransactionsBoundaryTest().runAll(1, 5);
    }

    // ---- 1: "without values, with the setting KEEP 0, with an empty text and an empty history,
    // without a snapshot"

    void promise1WithoutValues() {
        SavepointStore store = new SavepointStore();
        for (int key = 0; key < 16; key++) {
            due("value(" + key + ")", store.value(key), NONE);
            due("committed(" + key + ")", store.committed(key), NONE);
        }
        dueDouble("mean", store.mean(), 0.0);
        due("save", store.save(), 0);
    }

    void promise1KeepIs0() {
        due("keep(true)", new SavepointStore().keep(true), 0);
        due("keep(false)", new SavepointStore().keep(false), 0);
        SavepointStore store = new SavepointStore();
        store.begin(0);
        due("shift of no value", store.shift(0, 1, 1), FAILED);
        due("its lock is given back", store.mode(0, 0), 0);
    }

    void promise1EmptyText() {
        due("fault", new SavepointStore().fault(), 0);
        due("perform", new SavepointStore().perform(), -100);
        due("clearText", new SavepointStore().clearText(), 0);
        due("append", new SavepointStore().append('0'), 1);
    }

    void promise1EmptyHistory() {
        due("undo", new SavepointStore().undo(), NONE);
    }

    void promise1WithoutASnapshot() {
        due("restore", new SavepointStore().restore(), NOT_POSSIBLE);
    }

    void promise1NothingIsOpenOrCounted() {
        SavepointStore store = new SavepointStore();
        for (int session = 0; session < 3; session++) {
            dueClosed(store, session);
        }
        for (int what = 0; what < 7; what++) {
            due("total(" + what + ")", store.total(what), 0);
        }
    }

    /** "An object is used for at most 512 calls after it has been made". */
    void promise1The512thCall() {
        SavepointStore store = new SavepointStore();
        for (int call = 1; call <= 511; call++) {
            due("call " + call, call % 2 == 1 ? store.begin(0) : store.commit(0), call % 2);
        }
        due("the 512th call", store.commit(0), 0);

        SavepointStore asked = new SavepointStore();
        for (int call = 1; call <= 511; call++) {
            asked.keep(call % 2 == 1);
        }
        due("undo as the 512th call", asked.undo(), 4);

        SavepointStore counted = new SavepointStore();
        Scenes.type(counted, Scenes.FULL_SCRIPT.substring(0, 77));
        for (int call = 1 + 77 + 1; call <= 511; call++) {
            due("perform", counted.perform(), 26);
        }
        due("total(0) as the 512th call", counted.total(0), 433 * 13);
    }

    // ---- 2: "Returns the previous value, 0 or 1."

    void promise2PreviousValue() {
        SavepointStore store = new SavepointStore();
        due("from 0 to 0", store.keep(false), 0);
        due("from 0 to 1", store.keep(true), 0);
        due("from 1 to 1", store.keep(true), 1);
        due("from 1 to 0", store.keep(false), 1);
        due("from 0 to 0", store.keep(false), 0);
    }

    /** "records the state before it in the history, even if the action changes nothing" */
    void promise2RecordsEvenWithoutAChange() {
        recorded("keep(false)", store -> store.keep(false), Scenes.NOTHING);
        recorded("keep(true)", store -> store.keep(true), Scenes.NOTHING);
        recorded("keep(true)", store -> store.keep(true), Scenes.MIXED);
        recorded("keep(false)", store -> store.keep(false), Scenes.MIXED);
    }

    /** "Changes the setting KEEP", which decides on the locks of what is undone from then on. */
    void promise2DecidesOnTheLocks() {
        SavepointStore store = Scenes.ALL_OPEN.made();
        for (int keep = 0; keep <= 1; keep++) {
            store.keep(keep == 1);
            due("shift of no value", store.shift(0, 1, 1), FAILED);
            due("its lock with KEEP " + keep, store.mode(0, 0), keep == 1 ? 2 : 0);
            store.savepoint(1, keep);
            store.write(1, 5, 5);
            store.undoTo(1, keep);
            due("the lock behind undoTo with KEEP " + keep, store.mode(1, 5), keep == 1 ? 2 : 0);
        }
        store.keep(false);
        due("what was kept stays", store.mode(0, 0), 2);
        due("until it is undone", store.undoTo(1, 1), 0);
        due("mode(1, 5)", store.mode(1, 5), 0);
    }

    /** No other call changes the setting, but for undo and restore, which bring back another state. */
    void promise2StaysUntilTheNextKeep() {
        Call[] others = {
            store -> store.begin(2), store -> store.commit(0), store -> store.rollback(0),
            store -> store.savepoint(0, 2), store -> store.undoTo(0, 2), store -> store.release(0, 2),
            store -> store.read(0, 0), store -> store.read(0, 15), store -> store.write(0, 0, 1),
            store -> store.erase(0, 0), store -> store.shift(0, 1, 1), store -> store.shift(0, 1, -9999),
            store -> store.move(0, 0, 3, 1), store -> store.append(';'), SavepointStore::clearText,
            SavepointStore::fault, SavepointStore::perform, SavepointStore::save, store -> store.write(3, 0, 0),
        };
        for (int keep = 0; keep <= 1; keep++) {
            for (int other = 0; other < others.length; other++) {
                SavepointStore store = Scenes.MIXED.made();
                store.keep(keep == 1);
                others[other].on(store);
                due("keep behind call " + other, store.keep(false), keep);
            }
        }
    }

    // ---- 3: begin

    void promise3NoSuchSession() {
        noSuchSession("begin", SavepointStore::begin);
    }

    void promise3LeastAndGreatestSession() {
        for (int session = 0; session <= 2; session++) {
            SavepointStore store = new SavepointStore();
            due("begin(" + session + ")", store.begin(session), 1);
            for (int other = 0; other <= 2; other++) {
                due("session(" + other + ", 0)", store.session(other, 0), other == session ? 1 : 0);
            }
        }
    }

    void promise3NumberOfOpenTransactions() {
        SavepointStore store = new SavepointStore();
        due("the first", store.begin(2), 1);
        due("the second", store.begin(0), 2);
        due("the third", store.begin(1), 3);
        store.commit(0);
        due("the third again", store.begin(0), 3);
        store.rollback(0);
        store.commit(1);
        store.rollback(2);
        due("the first again", store.begin(1), 1);
    }

    void promise3AlreadyOpen() {
        refused("begin(0)", NOT_POSSIBLE, store -> store.begin(0),
                Scenes.MIXED, Scenes.ALL_OPEN, Scenes.FULL_SAVEPOINTS);
        refused("begin(1)", NOT_POSSIBLE, store -> store.begin(1), Scenes.MIXED, Scenes.ALL_OPEN);
        refused("begin(2)", NOT_POSSIBLE, store -> store.begin(2), Scenes.ALL_OPEN);
    }

    void promise3NothingOfAnEarlierTransaction() {
        for (int end = 0; end <= 1; end++) {
            boolean isCommit = end == 0;
            SavepointStore store = Scenes.FULL_SAVEPOINTS.made();
            due("the end", isCommit ? store.commit(0) : store.rollback(0), 12);
            store.begin(0);
            for (int what = 1; what < 5; what++) {
                due("session(0, " + what + ")", store.session(0, what), 0);
            }
            due("undoTo(0, 7)", store.undoTo(0, 7), NOT_POSSIBLE);
            due("rollback(0)", store.rollback(0), 0);
            due("value(11)", store.value(11), isCommit ? 111 : NONE);
        }
    }

    void promise3IsRecorded() {
        recorded("begin(2)", store -> store.begin(2), Scenes.NOTHING);
        recorded("begin(2)", store -> store.begin(2), Scenes.MIXED);
    }

    // ---- 4: commit

    void promise4NoSuchSession() {
        noSuchSession("commit", SavepointStore::commit);
    }

    void promise4LeastAndGreatestSession() {
        leastAndGreatestSession("commit", SavepointStore::commit);
    }

    void promise4NoOpenTransaction() {
        noOpenTransaction("commit", SavepointStore::commit);
    }

    private void dueCommit(Change... changes) {
        for (Change change : changes) {
            SavepointStore store = change.open().made();
            String values = values(store);
            due("commit of " + change.name(), store.commit(1), change.keys());
            holds("the values behind commit of " + change.name() + " stay", values(store).equals(values));
        }
    }

    private static String values(SavepointStore store) {
        StringBuilder values = new StringBuilder();
        for (int key = 0; key < 16; key++) {
            values.append(store.value(key)).append(' ');
        }
        return values.toString();
    }

    /** "the number of keys that have another value than directly before the first change" */
    void promise4NoKeyHasAnotherValue() {
        dueCommit(Change.OF_NO_KEY);
    }

    /** "(or a value instead of none, or none instead of a value)" */
    void promise4OneKeyOfEachKind() {
        dueCommit(Change.OF_ONE_KEY);
    }

    void promise4AllKeys() {
        dueCommit(Change.OF_ALL_KEYS);
    }

    /** "directly before the first change by the transaction", which may be long behind begin. */
    void promise4ChangeOfAnotherSessionSinceBegin() {
        SavepointStore store = Scenes.ALL_OPEN.made();
        store.write(1, 0, 5);
        store.write(1, 1, 5);
        due("commit(1)", store.commit(1), 2);
        store.write(0, 0, 5);
        store.write(0, 1, 6);
        due("commit(0)", store.commit(0), 1);
        due("commit(2)", store.commit(2), 0);
    }

    /** "the values stay, the session has no locks, no savepoints and no open transaction then" */
    void promise4EndsAFullTransaction() {
        for (int keep = 0; keep <= 1; keep++) {
            SavepointStore store = Scenes.FULL_SAVEPOINTS.made();
            store.keep(keep == 1);
            for (int key = 12; key < 16; key++) {
                store.write(0, key, 100 + key);
            }
            due("commit(0)", store.commit(0), 16);
            dueClosed(store, 0);
            for (int key = 0; key < 16; key++) {
                due("value(" + key + ")", store.value(key), 100 + key);
                due("committed(" + key + ")", store.committed(key), 100 + key);
                due("busyFor(" + key + ", 2)", store.busyFor(key, 2), 0);
            }
            due("another session stays", store.nearest(1, 7), 0);
        }
    }

    void promise4IsRecorded() {
        recorded("commit(0)", store -> store.commit(0), Scenes.FULL_SAVEPOINTS);
        recorded("commit(1)", store -> store.commit(1), Scenes.MIXED);
        recorded("commit(2)", store -> store.commit(2), store -> store.begin(2));
    }

    // ---- 5: rollback

    void promise5NoSuchSession() {
        noSuchSession("rollback", SavepointStore::rollback);
    }

    void promise5LeastAndGreatestSession() {
        leastAndGreatestSession("rollback", SavepointStore::rollback);
    }

    void promise5NoOpenTransaction() {
        noOpenTransaction("rollback", SavepointStore::rollback);
    }

    private void dueRollback(Change... changes) {
        for (Change change : changes) {
            due("rollback of " + change.name(), change.open().made().rollback(1), change.keys());
            Run behind = change.open().then(store -> store.rollback(1));
            sameState("rollback of " + change.name() + " brings back all", behind, change.committed());
        }
    }

    /** "the number of keys that get another value by this" */
    void promise5NoKeyGetsAnotherValue() {
        dueRollback(Change.OF_NO_KEY);
    }

    /** "(or a value instead of none, or none instead of a value)" */
    void promise5OneKeyOfEachKind() {
        dueRollback(Change.OF_ONE_KEY);
    }

    void promise5AllKeys() {
        dueRollback(Change.OF_ALL_KEYS);
    }

    /** "it is undone to the moment when it began", also past savepoints that were released. */
    void promise5PastAllSavepoints() {
        for (int keep = 0; keep <= 1; keep++) {
            SavepointStore store = Scenes.FULL_SAVEPOINTS.made();
            store.keep(keep == 1);
            store.release(0, 2);
            store.write(0, 0, 1);
            due("rollback(0)", store.rollback(0), 12);
            dueClosed(store, 0);
            for (int key = 0; key < 16; key++) {
                due("value(" + key + ")", store.value(key), NONE);
                due("busyFor(" + key + ", 2)", store.busyFor(key, 2), 0);
            }
            due("another session stays", store.nearest(1, 7), 0);
        }
    }

    void promise5IsRecorded() {
        recorded("rollback(0)", store -> store.rollback(0), Scenes.FULL_SAVEPOINTS);
        recorded("rollback(1)", store -> store.rollback(1), Scenes.MIXED);
        recorded("rollback(2)", store -> store.rollback(2), store -> store.begin(2));
    }

    // ---- what begin, commit and rollback share

    private void noSuchSession(String method, Call.OfSession call) {
        for (int session : NO_SESSIONS) {
            refused(method + "(" + session + ")", NO_SUCH, call.by(session),
                    Scenes.NOTHING, Scenes.MIXED, Scenes.ALL_OPEN);
        }
    }

    private void leastAndGreatestSession(String method, Call.OfSession end) {
        for (int session = 0; session <= 2; session++) {
            SavepointStore store = Scenes.ALL_OPEN.made();
            store.write(session, 0, 1);
            due(method + "(" + session + ")", end.on(store, session), 1);
            for (int other = 0; other <= 2; other++) {
                due("session(" + other + ", 0)", store.session(other, 0), other == session ? 0 : 1);
            }
        }
    }

    private void noOpenTransaction(String method, Call.OfSession end) {
        for (int session = 0; session <= 2; session++) {
            int closed = session;
            refused(method + "(" + session + ")", NOT_POSSIBLE, end.by(session), Scenes.NOTHING,
                    Scenes.FULL_STORE, Scenes.ALL_OPEN.then(store -> store.commit(closed)),
                    Scenes.ALL_OPEN.then(store -> store.rollback(closed)));
        }
        refused(method + "(2)", NOT_POSSIBLE, end.by(2), Scenes.MIXED);
    }
}
