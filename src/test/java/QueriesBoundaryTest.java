/** The boundary cases of promises 21 to 31: the queries. */
public final class QueriesBoundaryTest extends Cases {
    private static final int[] NO_MODES = {0, 3, -1, 4, 65537, MIN, MAX};
    private static final int[] NO_SUBJECTS = {-1, 5, 6, 65536, MIN, MAX};
    private static final int[] NO_TOTALS = {-1, 7, 8, 65536, MIN, MAX};
    private static final int[] NO_SAVEPOINTS = {-1, 12, 13, 65536, MIN, MAX};

    private static final Run[] SCENES = {Scenes.NOTHING, Scenes.MIXED};

    public static void main(String[] args) throws ReflectiveOperationException {
        new QueriesBoundaryTest().runAll(21, 31);
    }

    // ---- 21: value

    void promise21NoSuchKey() {
        for (int key : NO_KEYS) {
            refused("value(" + key + ")", NO_SUCH, store -> store.value(key), SCENES);
        }
    }

    void promise21LeastAndGreatest() {
        for (int key = 0; key <= 15; key++) {
            SavepointStore store = Scenes.ALL_OPEN.made();
            due("no value", store.value(key), NONE);
            store.write(2, key, 0);
            due("the least value", store.value(key), 0);
            store.write(2, key, 9999);
            due("the greatest value", store.value(key), 9999);
            store.commit(2);
            due("a committed value", store.value(key), 9999);
            int other = 15 - key;
            due("value(" + other + ")", store.value(other), NONE);
        }
        changesNothing("value(0)", store -> store.value(0), Scenes.MIXED);
    }

    /** "the value of a key in the store, whoever has changed it" */
    void promise21WhoeverHasChangedIt() {
        for (int session = 0; session <= 2; session++) {
            SavepointStore store = Scenes.FULL_STORE.then(Scenes.ALL_OPEN).made();
            store.write(session, 3, 30 + session);
            store.savepoint(session, 0);
            store.erase(session, 4);
            due("an open transaction's", store.value(3), 30 + session);
            due("an open transaction's", store.value(4), NONE);
            due("a committed one", store.value(5), 9999);
            store.undoTo(session, 0);
            due("behind undoTo", store.value(4), 9999);
            store.rollback(session);
            due("behind rollback", store.value(3), 9999);
            Checks.perform(store, "0w3=3");
            due("a script's", store.value(3), session == 0 ? 9999 : 3);
            store.save();
            store.write((session + 1) % 3, 6, 6);
            due("another session's", store.value(6), 6);
            store.restore();
            due("the snapshot's", store.value(6), 9999);
            store.undo();
            due("behind undo", store.value(6), 6);
        }
    }

    // ---- 22: committed

    void promise22NoSuchKey() {
        for (int key : NO_KEYS) {
            refused("committed(" + key + ")", NO_SUCH, store -> store.committed(key), SCENES);
        }
    }

    /** "if an open transaction has changed the key since it began, .. otherwise the value in the store" */
    void promise22LeastAndGreatest() {
        for (int session = 0; session <= 2; session++) {
            for (int key = 0; key <= 15; key += 15) {
                SavepointStore store = Scenes.ALL_OPEN.made();
                store.write(session, key, 0);
                due("no value before it", store.committed(key), NONE);
                store.commit(session);
                due("the least value", store.committed(key), 0);
                store.begin(session);
                store.write(session, key, 9999);
                store.savepoint(session, 0);
                store.write(session, key, 5);
                due("the least value before it", store.committed(key), 0);
                store.undoTo(session, 0);
                due("behind undoTo", store.committed(key), 0);
                store.commit(session);
                due("the greatest value", store.committed(key), 9999);
                store.begin(session);
                store.erase(session, key);
                due("the greatest value before it", store.committed(key), 9999);
                store.commit(session);
                due("NONE if it is no value", store.committed(key), NONE);
            }
        }
        changesNothing("committed(0)", store -> store.committed(0), Scenes.MIXED);
    }

    void promise22EachSessionHasChangedAKey() {
        SavepointStore store = Scenes.FULL_STORE.then(Scenes.ALL_OPEN).made();
        for (int key = 0; key < 16; key++) {
            store.write(key % 3, key, key);
        }
        for (int key = 0; key < 16; key++) {
            due("committed(" + key + ")", store.committed(key), 9999);
        }
        store.commit(1);
        due("committed(1)", store.committed(1), 1);
        due("committed(2)", store.committed(2), 9999);
    }

    // ---- 23: mode

    void promise23NoSuchSessionOrKey() {
        for (int session : NO_SESSIONS) {
            refused("mode(" + session + ", 0)", NO_SUCH, store -> store.mode(session, 0), SCENES);
        }
        for (int key : NO_KEYS) {
            refused("mode(0, " + key + ")", NO_SUCH, store -> store.mode(0, key), SCENES);
            refused("mode(3, " + key + ")", NO_SUCH, store -> store.mode(3, key), SCENES);
        }
    }

    /** "the mode, 0 to 2", at every key beside every other one */
    void promise23EachModeAtEachKey() {
        for (int key = 0; key <= 15; key++) {
            SavepointStore store = Scenes.ALL_OPEN.made();
            dueModes("no lock", store, 2, 0, 65535);
            store.read(2, key);
            dueModes("shared", store, 2, 1, 1 << key);
            dueModes("no lock", store, 2, 0, 65535 & ~(1 << key));
            store.write(2, key, 1);
            dueModes("exclusive", store, 2, 2, 1 << key);
            dueModes("no lock", store, 2, 0, 65535 & ~(1 << key));
            dueModes("another session's", store, 0, 0, 65535);
        }
        changesNothing("mode(0, 0)", store -> store.mode(0, 0), Scenes.MIXED);
    }

    void promise23AllKeys() {
        SavepointStore store = Scenes.ALL_OPEN.made();
        for (int key = 0; key < 16; key++) {
            store.read(0, key);
            store.read(2, key);
        }
        dueModes("shared", store, 0, 1, 65535);
        dueModes("shared", store, 2, 1, 65535);
        store.commit(2);
        dueModes("a closed session's", store, 2, 0, 65535);
        for (int key = 0; key < 16; key++) {
            store.erase(0, key);
        }
        dueModes("exclusive", store, 0, 2, 65535);
    }

    // ---- 24: busyFor

    void promise24NoSuchKey() {
        for (int key : NO_KEYS) {
            refused("busyFor(" + key + ", 1)", NO_SUCH, store -> store.busyFor(key, 1), SCENES);
        }
    }

    void promise24ModeIsNeither1Nor2() {
        for (int mode : NO_MODES) {
            refused("busyFor(0, " + mode + ")", BAD_VALUE, store -> store.busyFor(0, mode), SCENES);
        }
    }

    void promise24FirstCodeOfTwo() {
        for (int mode : NO_MODES) {
            refused("busyFor(16, " + mode + ")", NO_SUCH, store -> store.busyFor(16, mode), SCENES);
            refused("busyFor(-1, " + mode + ")", NO_SUCH, store -> store.busyFor(-1, mode), SCENES);
        }
    }

    private void dueBusyFor(String name, SavepointStore store, int key, int shared, int exclusive) {
        due("busyFor(" + key + ", 1) of " + name, store.busyFor(key, 1), shared);
        due("busyFor(" + key + ", 2) of " + name, store.busyFor(key, 2), exclusive);
    }

    /** "(also those without an open transaction, as if they locked it)" */
    void promise24FromNoSessionToAll() {
        for (int key = 0; key <= 15; key++) {
            SavepointStore store = new SavepointStore();
            dueBusyFor("a free key", store, key, 0, 0);
            store.begin(0);
            store.read(0, key);
            dueBusyFor("one that 0 shares", store, key, 0, 6);
            store.begin(2);
            store.read(2, key);
            dueBusyFor("one that 0 and 2 share", store, key, 0, 7);
            store.begin(1);
            store.read(1, key);
            dueBusyFor("one that all share", store, key, 0, 7);
            store.rollback(0);
            store.commit(1);
            dueBusyFor("one that 2 shares", store, key, 0, 3);
            store.erase(2, key);
            dueBusyFor("one that 2 holds alone", store, key, 3, 3);
            store.commit(2);
            dueBusyFor("a free key again", store, key, 0, 0);
        }
        changesNothing("busyFor(0, 2)", store -> store.busyFor(0, 2), Scenes.MIXED);
    }

    // ---- 25: session

    void promise25NoSuchSession() {
        for (int session : NO_SESSIONS) {
            for (int what = 0; what <= 4; what++) {
                int any = what;
                refused("session(" + session + ", " + what + ")", NO_SUCH,
                        store -> store.session(session, any), Scenes.MIXED);
            }
        }
    }

    void promise25WhatOutOfRange() {
        for (int what : NO_SUBJECTS) {
            for (int session = 0; session <= 2; session++) {
                int any = session;
                refused("session(" + session + ", " + what + ")", BAD_VALUE,
                        store -> store.session(any, what), SCENES);
            }
        }
    }

    void promise25FirstCodeOfTwo() {
        for (int what : NO_SUBJECTS) {
            refused("session(3, " + what + ")", NO_SUCH, store -> store.session(3, what), SCENES);
            refused("session(-1, " + what + ")", NO_SUCH, store -> store.session(-1, what), SCENES);
        }
    }

    private void dueSession(String name, SavepointStore store, int session, int... numbers) {
        for (int what = 0; what <= 4; what++) {
            due("session(" + session + ", " + what + ") of " + name, store.session(session, what), numbers[what]);
        }
    }

    /** "(0 for 1 to 4 without an open transaction)" */
    void promise25LeastAndGreatestNumbers() {
        for (int session = 0; session <= 2; session++) {
            SavepointStore store = new SavepointStore();
            dueSession("a closed one", store, session, 0, 0, 0, 0, 0);
            store.begin(session);
            dueSession("one that has just begun", store, session, 1, 0, 0, 0, 0);
            for (int i = 0; i < 12; i++) {
                store.savepoint(session, 0);
            }
            for (int key = 0; key < 16; key++) {
                store.read(session, key);
            }
            dueSession("one that has read all", store, session, 1, 12, 0, 16, 0);
            store.write(session, 0, 1);
            store.write(session, 0, 2);
            dueSession("one change", store, session, 1, 12, 1, 15, 1);
            for (int key = 0; key < 16; key++) {
                store.erase(session, key);
            }
            dueSession("a full one", store, session, 1, 12, 16, 0, 16);
            store.rollback(session);
            dueSession("a closed one", store, session, 0, 0, 0, 0, 0);
        }
        changesNothing("session(0, 4)", store -> store.session(0, 4), Scenes.MIXED);
    }

    // ---- 26: nameOf

    void promise26NoSuchSession() {
        for (int session : NO_SESSIONS) {
            refused("nameOf(" + session + ", 0)", NO_SUCH, store -> store.nameOf(session, 0),
                    Scenes.MIXED, Scenes.FULL_SAVEPOINTS, Scenes.ALL_MARKED);
        }
    }

    void promise26NoSuchSavepoint() {
        for (int savepoint : NO_SAVEPOINTS) {
            refused("nameOf(0, " + savepoint + ")", NO_SUCH, store -> store.nameOf(0, savepoint),
                    Scenes.MIXED, Scenes.FULL_SAVEPOINTS);
            refused("nameOf(2, " + savepoint + ") of a closed session", NO_SUCH,
                    store -> store.nameOf(2, savepoint), Scenes.MIXED);
        }
        refused("nameOf(0, 0) without savepoints", NO_SUCH, store -> store.nameOf(0, 0),
                Scenes.NOTHING, Scenes.ALL_OPEN);
        refused("nameOf(0, 3) of three", NO_SUCH, store -> store.nameOf(0, 3), Scenes.MIXED);
        refused("nameOf(1, 1) of one", NO_SUCH, store -> store.nameOf(1, 1), Scenes.MIXED);
        refused("nameOf(0, 11) of eleven", NO_SUCH, store -> store.nameOf(0, 11),
                Scenes.FULL_SAVEPOINTS.then(store -> store.release(0, 3)));
    }

    void promise26LeastAndGreatest() {
        SavepointStore store = Scenes.FULL_SAVEPOINTS.made();
        for (int savepoint = 0; savepoint <= 11; savepoint++) {
            due("nameOf(0, " + savepoint + ")", store.nameOf(0, savepoint), savepoint % 8);
        }
        due("nameOf(1, 0)", store.nameOf(1, 0), 7);
        for (int session = 0; session <= 2; session++) {
            due("nameOf(" + session + ", 0)", Scenes.ALL_MARKED.made().nameOf(session, 0), 5 + session);
            due("nameOf(" + session + ", 1)", Scenes.ALL_MARKED.made().nameOf(session, 1), 0);
            due("nameOf(" + session + ", 2)", Scenes.ALL_MARKED.made().nameOf(session, 2), NO_SUCH);
        }
        changesNothing("nameOf(0, 0)", again -> again.nameOf(0, 0), Scenes.MIXED);
    }

    // ---- 27: nearest

    void promise27NoSuchSession() {
        for (int session : NO_SESSIONS) {
            refused("nearest(" + session + ", 2)", NO_SUCH, store -> store.nearest(session, 2), SCENES);
        }
    }

    void promise27NameOutOfRange() {
        for (int name : NO_NAMES) {
            for (int session = 0; session <= 2; session++) {
                int any = session;
                refused("nearest(" + session + ", " + name + ")", BAD_VALUE,
                        store -> store.nearest(any, name), SCENES);
            }
        }
    }

    void promise27FirstCodeOfTwo() {
        for (int name : NO_NAMES) {
            refused("nearest(3, " + name + ")", NO_SUCH, store -> store.nearest(3, name), SCENES);
            refused("nearest(-1, " + name + ")", NO_SUCH, store -> store.nearest(-1, name), SCENES);
        }
    }

    /** "NONE if there is no savepoint of this name": without a transaction, without savepoints, of others */
    void promise27NoSavepointOfThisName() {
        for (int name = 0; name <= 7; name++) {
            int any = name;
            refused("nearest(0, " + name + ")", NONE, store -> store.nearest(0, any),
                    Scenes.NOTHING, Scenes.ALL_OPEN);
            due("nearest(2, " + name + ")", Scenes.MIXED.made().nearest(2, name), NONE);
            due("nearest(1, " + name + ")", Scenes.MIXED.made().nearest(1, name), name == 4 ? 0 : NONE);
        }
    }

    void promise27LeastAndGreatest() {
        SavepointStore store = Scenes.FULL_SAVEPOINTS.made();
        int[] nearest = {8, 9, 10, 11, 4, 5, 6, 7};
        for (int name = 0; name <= 7; name++) {
            due("nearest(0, " + name + ")", store.nearest(0, name), nearest[name]);
        }
        store.undoTo(0, 7);
        for (int name = 0; name <= 7; name++) {
            due("nearest(0, " + name + ")", store.nearest(0, name), name);
        }
        for (int session = 0; session <= 2; session++) {
            for (int name = 5; name <= 7; name++) {
                due("nearest(" + session + ", " + name + ")", Scenes.ALL_MARKED.made().nearest(session, name),
                        name == 5 + session ? 0 : NONE);
            }
        }
        changesNothing("nearest(0, 2)", again -> again.nearest(0, 2), Scenes.MIXED);
    }

    // ---- 28: changedSince

    void promise28NoSuchSession() {
        for (int session : NO_SESSIONS) {
            refused("changedSince(" + session + ", 0, true)", NO_SUCH,
                    store -> store.changedSince(session, 0, true), Scenes.MIXED, Scenes.ALL_MARKED);
            refused("changedSince(" + session + ", 0, false)", NO_SUCH,
                    store -> store.changedSince(session, 0, false), Scenes.MIXED, Scenes.ALL_MARKED);
        }
    }

    void promise28NoSuchSavepoint() {
        for (boolean isLocks : new boolean[] {false, true}) {
            for (int savepoint : NO_SAVEPOINTS) {
                refused("changedSince(0, " + savepoint + ", " + isLocks + ")", NO_SUCH,
                        store -> store.changedSince(0, savepoint, isLocks), Scenes.MIXED, Scenes.FULL_SAVEPOINTS);
            }
            refused("changedSince(0, 0, " + isLocks + ") without savepoints", NO_SUCH,
                    store -> store.changedSince(0, 0, isLocks), Scenes.NOTHING, Scenes.ALL_OPEN);
            refused("changedSince(0, 3, " + isLocks + ") of three", NO_SUCH,
                    store -> store.changedSince(0, 3, isLocks), Scenes.MIXED);
            refused("changedSince(2, 0, " + isLocks + ") of a closed session", NO_SUCH,
                    store -> store.changedSince(2, 0, isLocks), Scenes.MIXED);
        }
    }

    private void dueChanged(String name, SavepointStore store, int savepoint, int values, int locks) {
        due("values behind " + name, store.changedSince(0, savepoint, false), values);
        due("locks behind " + name, store.changedSince(0, savepoint, true), locks);
    }

    /** "a bit mask in which bit k stands for the key k": from no key to all */
    void promise28FromNoKeyToAll() {
        for (int key = 0; key <= 15; key++) {
            SavepointStore store = Scenes.ALL_OPEN.made();
            store.savepoint(0, 0);
            dueChanged("nothing", store, 0, 0, 0);
            store.read(0, key);
            dueChanged("a read", store, 0, 0, 1 << key);
            store.erase(0, key);
            dueChanged("erasing no value", store, 0, 1 << key, 1 << key);
            store.savepoint(0, 0);
            dueChanged("a savepoint", store, 1, 0, 0);
            store.write(0, key, 1);
            dueChanged("a write of a locked key", store, 1, 1 << key, 0);
        }
        SavepointStore store = Scenes.ALL_OPEN.made();
        store.savepoint(0, 0);
        for (int key = 0; key < 16; key++) {
            store.write(0, key, key);
        }
        dueChanged("writes of all", store, 0, 65535, 65535);
        store.undoTo(0, 0);
        dueChanged("undoTo", store, 0, 0, 0);
        changesNothing("changedSince(0, 0, true)", again -> again.changedSince(0, 0, true), Scenes.MIXED);
        changesNothing("changedSince(0, 0, false)", again -> again.changedSince(0, 0, false), Scenes.MIXED);
    }

    void promise28EachSession() {
        for (int session = 0; session <= 2; session++) {
            SavepointStore store = Scenes.ALL_MARKED.made();
            int later = 1 << 13 + session;
            int all = later | 1 << session;
            due("values since 0", store.changedSince(session, 0, false), all);
            due("locks since 0", store.changedSince(session, 0, true), all);
            due("values since 1", store.changedSince(session, 1, false), later);
            due("locks since 1", store.changedSince(session, 1, true), later);
            due("no savepoint 2", store.changedSince(session, 2, true), NO_SUCH);
        }
    }

    void promise28TwelveSavepoints() {
        SavepointStore store = Scenes.FULL_SAVEPOINTS.made();
        for (int savepoint = 0; savepoint <= 11; savepoint++) {
            int since = 4095 & ~((1 << savepoint) - 1);
            dueChanged("the savepoint " + savepoint, store, savepoint, since, since);
        }
    }

    /** From shared to exclusive is a change of the lock mode, too. */
    void promise28RaisedLock() {
        SavepointStore store = Scenes.ALL_OPEN.made();
        store.read(0, 0);
        store.read(0, 15);
        store.savepoint(0, 0);
        store.read(0, 0);
        dueChanged("a read of a locked key", store, 0, 0, 0);
        store.write(0, 0, 1);
        store.write(0, 15, 1);
        dueChanged("raised locks", store, 0, 1 | 1 << 15, 1 | 1 << 15);
    }

    // ---- 29: ifUndone

    void promise29NoSuchSession() {
        for (int session : NO_SESSIONS) {
            refused("ifUndone(" + session + ", 2, 0)", NO_SUCH, store -> store.ifUndone(session, 2, 0), SCENES);
        }
    }

    void promise29NoSuchKey() {
        for (int key : NO_KEYS) {
            refused("ifUndone(0, 2, " + key + ")", NO_SUCH, store -> store.ifUndone(0, 2, key), SCENES);
        }
    }

    void promise29NameOutOfRange() {
        for (int name : NO_NAMES) {
            refused("ifUndone(0, " + name + ", 0)", BAD_VALUE, store -> store.ifUndone(0, name, 0), SCENES);
        }
    }

    /** "NOT_POSSIBLE as for undoTo" */
    void promise29NotPossible() {
        for (int name = 0; name <= 7; name++) {
            int any = name;
            refused("ifUndone(2, " + name + ", 0) of a closed session", NOT_POSSIBLE,
                    store -> store.ifUndone(2, any, 0), SCENES);
            refused("ifUndone(0, " + name + ", 0) without savepoints", NOT_POSSIBLE,
                    store -> store.ifUndone(0, any, 0), Scenes.ALL_OPEN);
        }
        refused("ifUndone(0, 4, 15), a name of session 1", NOT_POSSIBLE,
                store -> store.ifUndone(0, 4, 15), Scenes.MIXED);
    }

    void promise29FirstCodeOfTwo() {
        for (int name : NO_NAMES) {
            refused("ifUndone(3, " + name + ", 0)", NO_SUCH, store -> store.ifUndone(3, name, 0), SCENES);
            refused("ifUndone(0, " + name + ", 16)", NO_SUCH, store -> store.ifUndone(0, name, 16), SCENES);
            refused("ifUndone(2, " + name + ", 0) of a closed session", BAD_VALUE,
                    store -> store.ifUndone(2, name, 0), SCENES);
        }
        for (int key : NO_KEYS) {
            refused("ifUndone(3, 8, " + key + ")", NO_SUCH, store -> store.ifUndone(3, 8, key), SCENES);
            refused("ifUndone(2, 0, " + key + ") of a closed session", NO_SUCH,
                    store -> store.ifUndone(2, 0, key), SCENES);
            refused("ifUndone(0, 0, " + key + ") without such a savepoint", NO_SUCH,
                    store -> store.ifUndone(0, 0, key), SCENES);
        }
    }

    /** "the value that a key would have behind undoTo": at each key the one that undoTo brings */
    void promise29AsUndoTo() {
        for (Run scene : new Run[] {Scenes.MIXED, Scenes.FULL_SAVEPOINTS}) {
            for (int name = 0; name <= 7; name++) {
                for (int session = 0; session <= 1; session++) {
                    SavepointStore asked = scene.made();
                    SavepointStore undone = scene.made();
                    int answer = undone.undoTo(session, name);
                    for (int key = 0; key <= 15; key++) {
                        due("ifUndone(" + session + ", " + name + ", " + key + ")",
                                asked.ifUndone(session, name, key), answer < 0 ? answer : undone.value(key));
                    }
                }
            }
        }
        changesNothing("ifUndone(0, 2, 0)", store -> store.ifUndone(0, 2, 0), Scenes.MIXED);
    }

    void promise29LeastGreatestAndNoValue() {
        for (int session = 0; session <= 2; session++) {
            SavepointStore store = Scenes.ALL_OPEN.made();
            store.write(session, 0, 0);
            store.write(session, 15, 9999);
            store.savepoint(session, 0);
            store.savepoint(session, 7);
            store.erase(session, 0);
            store.erase(session, 15);
            store.write(session, 1, 5);
            for (int name = 0; name <= 7; name += 7) {
                due("the least value", store.ifUndone(session, name, 0), 0);
                due("the greatest value", store.ifUndone(session, name, 15), 9999);
                due("NONE if it would have no value", store.ifUndone(session, name, 1), NONE);
                due("a key without a change", store.ifUndone(session, name, 2), NONE);
            }
        }
    }

    // ---- 30: total

    void promise30NoSuchTotal() {
        for (int what : NO_TOTALS) {
            refused("total(" + what + ")", NO_SUCH, store -> store.total(what), SCENES);
        }
    }

    private void dueTotals(String name, Run run, int... totals) {
        SavepointStore store = run.made();
        for (int what = 0; what <= 6; what++) {
            due("total(" + what + ") behind " + name, store.total(what), totals[what]);
        }
    }

    /** Each of the seven numbers, "(each also in scripts)"; no other one changes. */
    void promise30EachNumber() {
        Run open = Scenes.ALL_OPEN.then(store -> {
            store.write(0, 0, 5);
            store.savepoint(0, 0);
        });
        dueTotals("nothing", Scenes.NOTHING, 0, 0, 0, 0, 0, 0, 0);
        dueTotals("begin", Scenes.ALL_OPEN, 0, 0, 0, 0, 0, 0, 0);
        dueTotals("a write and a savepoint", open, 0, 0, 1, 0, 0, 0, 1);
        dueTotals("commit", open.then(store -> store.commit(0)), 1, 0, 1, 0, 0, 0, 1);
        dueTotals("rollback", open.then(store -> store.rollback(0)), 0, 1, 1, 0, 0, 0, 1);
        dueTotals("read", open.then(store -> store.read(0, 1)), 0, 0, 2, 0, 0, 0, 1);
        dueTotals("erase", open.then(store -> store.erase(0, 1)), 0, 0, 2, 0, 0, 0, 1);
        dueTotals("shift", open.then(store -> store.shift(0, 1, 0)), 0, 0, 2, 0, 0, 0, 1);
        dueTotals("move", open.then(store -> store.move(0, 0, 1, 1)), 0, 0, 2, 0, 0, 0, 1);
        dueTotals("BUSY", open.then(store -> store.read(1, 0)), 0, 0, 1, 1, 0, 0, 1);
        dueTotals("FAILED", open.then(store -> store.shift(1, 2, 0)), 0, 0, 1, 0, 1, 0, 1);
        dueTotals("undoTo", open.then(store -> store.undoTo(0, 0)), 0, 0, 1, 0, 0, 1, 1);
        dueTotals("release", open.then(store -> store.release(0, 0)), 0, 0, 1, 0, 0, 0, 1);
        dueTotals("keep", open.then(store -> store.keep(true)), 0, 0, 1, 0, 0, 0, 1);
        String script = "0sb;0ua;0g0;0w1=1;0e1;0c;2r;0b;1g0;0sa;0g0;0w2=1";
        dueTotals(script, open.then(store -> Checks.perform(store, script)), 1, 1, 7, 0, 0, 1, 3);
        dueTotals("a busy script", open.then(store -> Checks.perform(store, "1g0;1r")), 0, 0, 1, 1, 0, 0, 1);
        changesNothing("total(6)", store -> store.total(6), Scenes.MIXED);
    }

    /** "5 for calls of undoTo that returned no error code, 6 for savepoints that were set" */
    void promise30RefusedCallsAreNotCounted() {
        Run full = Scenes.FULL_SAVEPOINTS;
        dueTotals("twelve savepoints", full, 0, 0, 12, 0, 0, 0, 13);
        dueTotals("a thirteenth", full.then(store -> store.savepoint(0, 0)), 0, 0, 12, 0, 0, 0, 13);
        dueTotals("undoTo without a savepoint", full.then(store -> store.undoTo(1, 0)), 0, 0, 12, 0, 0, 0, 13);
        dueTotals("commit of a closed session", full.then(store -> store.commit(2)), 0, 0, 12, 0, 0, 0, 13);
        dueTotals("rollback of a closed session", full.then(store -> store.rollback(2)), 0, 0, 12, 0, 0, 0, 13);
        dueTotals("read of a closed session", full.then(store -> store.read(2, 0)), 0, 0, 12, 0, 0, 0, 13);
        dueTotals("a wrong script", full.then(store -> Checks.perform(store, "0sa;")), 0, 0, 12, 0, 0, 0, 13);
        dueTotals("a script that is refused", full.then(store -> Checks.perform(store, "0sa;0c")),
                0, 0, 12, 0, 0, 0, 13);
    }

    /** Totals are counted from the beginning: no commit, rollback or undoTo sets them back. */
    void promise30CountedFromTheBeginning() {
        dueTotals("the mixed scene", Scenes.MIXED, 1, 1, 11, 1, 1, 1, 4);
        Run ended = Scenes.MIXED.then(store -> {
            store.undoTo(0, 2);
            store.rollback(0);
            store.commit(1);
        });
        dueTotals("its end", ended, 2, 2, 11, 1, 1, 2, 4);
    }

    // ---- 31: mean

    /** "0.0 if there is none" */
    void promise31NoValue() {
        dueDouble("of a new store", new SavepointStore().mean(), 0.0);
        SavepointStore store = Scenes.ALL_OPEN.made();
        store.write(0, 0, 9999);
        store.erase(0, 0);
        dueDouble("of an erased key", store.mean(), 0.0);
        store.rollback(0);
        dueDouble("behind rollback", store.mean(), 0.0);
        changesNothing("mean", again -> (int) again.mean(), Scenes.MIXED);
    }

    void promise31OneValue() {
        for (int key = 0; key <= 15; key++) {
            SavepointStore store = Scenes.ALL_OPEN.made();
            store.write(2, key, 0);
            dueDouble("of 0", store.mean(), 0.0);
            store.write(2, key, 9999);
            dueDouble("of 9999", store.mean(), 9999.0);
            store.write(1, 15 - key, 0);
            dueDouble("of 9999 and perhaps 0", store.mean(), 9999.0 / 2);
        }
    }

    /** "the sum of the values in the store, as a double": the quotient is not cut to a whole number. */
    void promise31AllValues() {
        dueDouble("of all at the greatest", Scenes.FULL_STORE.made().mean(), 9999.0);
        SavepointStore store = Scenes.FULL_STORE.then(Scenes.ALL_OPEN).made();
        store.write(0, 15, 0);
        dueDouble("of 15 at the greatest and 0", store.mean(), 149985.0 / 16);
        store.erase(0, 15);
        dueDouble("of 15 at the greatest", store.mean(), 9999.0);
        store.write(0, 0, 1);
        dueDouble("of 14 at the greatest and 1", store.mean(), 139987.0 / 15);
        dueDouble("of the mixed scene", Scenes.MIXED.made().mean(), 10107.0 / 4);
    }
}
