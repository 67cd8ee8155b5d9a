/** The states in which the boundary cases are tried. */
final class Scenes {
    /** The longest script: 80 characters, 27 orders. */
    static final String FULL_SCRIPT = "0b" + ";0c;0b".repeat(13);

    static final Run NOTHING = store -> { };
    static final Run MIXED = Scenes::mixed;
    static final Run ALL_OPEN = Scenes::openAll;
    static final Run ALL_MARKED = ALL_OPEN.then(Scenes::markAll);
    static final Run FULL_SAVEPOINTS = Scenes::setTwelveSavepoints;
    static final Run FULL_STORE = Scenes::fillStore;
    static final Run FULL_TEXT = MIXED.then(store -> type(store, FULL_SCRIPT));

    private Scenes() {
    }

    /**
     * Session 0 is open with the savepoints c, d, c and holds key 0 alone, session 1 is open with the
     * savepoint e and holds key 15 alone, session 2 is closed; key 9 is free and has no value. KEEP is
     * 1, there is a text and a snapshot, the history is full, and each total is above 0.
     */
    private static void mixed(SavepointStore store) {
        store.begin(2);
        store.write(2, 0, 100);
        store.write(2, 1, 9999);
        store.write(2, 2, 0);
        store.write(2, 5, 50);
        store.commit(2);
        store.begin(2);
        store.write(2, 5, 51);
        store.rollback(2);
        store.begin(0);
        store.read(0, 1);
        store.savepoint(0, 2);
        store.write(0, 0, 101);
        store.savepoint(0, 3);
        store.erase(0, 5);
        store.undoTo(0, 3);
        store.save();
        store.erase(0, 5);
        store.savepoint(0, 2);
        store.begin(1);
        store.read(1, 2);
        store.savepoint(1, 4);
        store.write(1, 15, 7);
        store.shift(0, 1 << 9, 1);
        store.read(1, 0);
        store.keep(true);
        type(store, "2b;2w7=7;2c");
    }

    private static void openAll(SavepointStore store) {
        for (int session = 0; session < 3; session++) {
            store.begin(session);
        }
    }

    /** Each session has two savepoints, of its own name and of a, with a change behind each. */
    private static void markAll(SavepointStore store) {
        for (int session = 0; session < 3; session++) {
            store.savepoint(session, 5 + session);
            store.write(session, session, 100 + session);
            store.savepoint(session, 0);
            store.erase(session, 13 + session);
        }
    }

    /** Session 0 has twelve savepoints, each name once or twice, and has changed key n behind savepoint n. */
    private static void setTwelveSavepoints(SavepointStore store) {
        store.begin(0);
        for (int savepoint = 0; savepoint < 12; savepoint++) {
            store.savepoint(0, savepoint % 8);
            store.write(0, savepoint, 100 + savepoint);
        }
        store.begin(1);
        store.savepoint(1, 7);
        type(store, "2b;2sa");
    }

    /** Every key has a value, no session is open. */
    private static void fillStore(SavepointStore store) {
        store.begin(0);
        for (int key = 0; key < 16; key++) {
            store.write(0, key, 9999);
        }
        store.commit(0);
    }

    /** Replaces the text. */
    static void type(SavepointStore store, String text) {
        store.clearText();
        Checks.type(store, text);
    }
}
