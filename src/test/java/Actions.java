/**
 * A call of each method, for scenes in which session 0 has a savepoint of the name b and has changed the
 * key 0, session 2 is closed, and there are a snapshot and a text that is a script.
 */
final class Actions {
    /** The 14 actions in the document's order; the last three are statements that may be BUSY or FAILED. */
    static final Call[] ALL = {
        store -> store.keep(true), store -> store.begin(2), store -> store.commit(0),
        store -> store.rollback(0), store -> store.savepoint(0, 7), store -> store.undoTo(0, 1),
        store -> store.release(0, 1), store -> store.read(0, 9), store -> store.write(0, 9, 9),
        store -> store.erase(0, 9), store -> store.shift(0, 1, 1), store -> store.move(0, 0, 9, 1),
        SavepointStore::perform, SavepointStore::restore,
        store -> store.read(0, 1), store -> store.shift(0, 1 << 9, 1), store -> store.move(0, 9, 0, 1),
    };

    static final Call KEEP = ALL[0];
    static final Call COMMIT = ALL[2];

    static final Call[] QUERIES = {
        store -> store.value(0), store -> store.committed(0), store -> store.mode(0, 0),
        store -> store.busyFor(0, 1), store -> store.busyFor(0, 2), store -> store.session(0, 4),
        store -> store.nameOf(0, 0), store -> store.nearest(0, 1), store -> store.changedSince(0, 0, true),
        store -> store.changedSince(0, 0, false), store -> store.ifUndone(0, 1, 0), store -> store.total(2),
        store -> (int) store.mean(),
    };

    /** What is neither an action nor a query; undo, which takes a state from the history, is not here. */
    static final Call[] OTHERS = {
        store -> store.append('0'), SavepointStore::clearText, SavepointStore::fault, SavepointStore::save,
    };

    private Actions() {
    }
}
