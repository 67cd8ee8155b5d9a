/**
 * All that can be seen of a store behind a run of calls, as a text. The run is made anew for each
 * group of looks, so that no store gets more than its 512 calls and no look disturbs another one.
 */
final class Picture {
    private Picture() {
    }

    /** The state, the totals, the text, the snapshot, and every state of the history. */
    static String of(Run run) {
        StringBuilder picture = new StringBuilder();
        picture.append(ofState(run)).append(ofTotals(run)).append(ofText(run));
        picture.append(ofSnapshot(run));
        for (int undone = 1; undone <= 6; undone++) {
            int steps = undone;
            picture.append("undo ").append(undoneTimes(run.made(), steps)).append('\n');
            Run behind = run.then(store -> undoneTimes(store, steps));
            picture.append(ofQueries(behind)).append(ofTotals(behind));
        }
        return picture.toString();
    }

    /** Values, locks, savepoints, all that is known of changes, and KEEP; no totals. */
    static String ofState(Run run) {
        StringBuilder picture = new StringBuilder(ofQueries(run));
        for (int session = 0; session < 3; session++) {
            for (int name = 0; name < 8; name++) {
                picture.append(ofUndoTo(run, session, name));
            }
            SavepointStore store = run.made();
            picture.append("rollback ").append(store.rollback(session)).append(valuesAndModes(store));
        }
        return picture.toString();
    }

    static String ofTotals(Run run) {
        SavepointStore store = run.made();
        StringBuilder picture = new StringBuilder("totals");
        for (int what = 0; what < 7; what++) {
            picture.append(' ').append(store.total(what));
        }
        return picture.append('\n').toString();
    }

    private static String ofText(Run run) {
        return "fault " + run.made().fault() + " perform " + run.made().perform()
                + " clearText " + run.made().clearText() + '\n'
                + ofQueries(run.then(SavepointStore::perform));
    }

    private static String ofSnapshot(Run run) {
        Run behind = run.then(SavepointStore::restore);
        return "restore " + run.made().restore() + '\n' + ofQueries(behind) + ofTotals(behind);
    }

    private static int undoneTimes(SavepointStore store, int times) {
        int answer = 0;
        for (int i = 0; i < times; i++) {
            answer = store.undo();
        }
        return answer;
    }

    private static String ofQueries(Run run) {
        SavepointStore store = run.made();
        StringBuilder picture = new StringBuilder("mean " + store.mean()).append(valuesAndModes(store));
        for (int key = 0; key < 16; key++) {
            picture.append(' ').append(store.committed(key));
            picture.append(' ').append(store.busyFor(key, 1)).append(' ').append(store.busyFor(key, 2));
        }
        for (int session = 0; session < 3; session++) {
            for (int what = 0; what < 5; what++) {
                picture.append(' ').append(store.session(session, what));
            }
            for (int name = 0; name < 8; name++) {
                picture.append(' ').append(store.nearest(session, name));
            }
        }
        picture.append(" keep ").append(store.keep(false)).append('\n');
        return picture.append(ofSavepoints(run)).toString();
    }

    private static String ofSavepoints(Run run) {
        StringBuilder picture = new StringBuilder("savepoints");
        for (int session = 0; session < 3; session++) {
            SavepointStore store = run.made();
            for (int savepoint = 0; savepoint < 12; savepoint++) {
                picture.append(' ').append(store.nameOf(session, savepoint));
                picture.append(' ').append(store.changedSince(session, savepoint, false));
                picture.append(' ').append(store.changedSince(session, savepoint, true));
            }
            for (int name = 0; name < 8; name++) {
                for (int key = 0; key < 16; key++) {
                    picture.append(' ').append(store.ifUndone(session, name, key));
                }
            }
        }
        return picture.append('\n').toString();
    }

    /** With KEEP 0, so that the modes show what is known of them. */
    private static String ofUndoTo(Run run, int session, int name) {
        SavepointStore store = run.made();
        store.keep(false);
        int answer = store.undoTo(session, name);
        if (answer < 0) {
            return "";
        }
        return "undoTo " + session + ' ' + name + ' ' + answer + valuesAndModes(store);
    }

    private static String valuesAndModes(SavepointStore store) {
        StringBuilder picture = new StringBuilder(" values and modes");
        for (int key = 0; key < 16; key++) {
            picture.append(' ').append(store.value(key));
            for (int session = 0; session < 3; session++) {
                picture.append(' ').append(store.mode(session, key));
            }
        }
        return picture.append('\n').toString();
    }
}
