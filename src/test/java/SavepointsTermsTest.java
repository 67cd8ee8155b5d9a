/** The sections "Savepoints" and "Statements" of the document's terms, a sentence or a part of one each. */
public final class SavepointsTermsTest extends Cases {
    private static final Run OPEN = store -> store.begin(0);

    /** Session 0 has the key 0 with 10 and the key 1 with none, both changed, and key 2 shared; KEEP is 0. */
    private static final Run CHANGED = OPEN.then(store -> {
        store.write(0, 0, 10);
        store.erase(0, 1);
        store.read(0, 2);
        store.savepoint(0, 0);
    });

    public static void main(String[] args) throws ReflectiveOperationException {
        new SavepointsTermsTest().runAll("savepoints", "statements");
    }

    // ---- "Savepoints"

    /** "An open transaction has up to 12 savepoints, numbered from 0 in the order in which they were set." */
    void savepointsUpToTwelve() {
        for (int session = 0; session <= 2; session++) {
            SavepointStore store = Scenes.ALL_OPEN.made();
            for (int number = 0; number <= 11; number++) {
                due("savepoint", store.savepoint(session, (5 * number + session) % 8), number);
            }
            due("a thirteenth", store.savepoint(session, 0), TOO_MANY);
            for (int number = 0; number <= 11; number++) {
                due("nameOf(" + session + ", " + number + ")", store.nameOf(session, number),
                        (5 * number + session) % 8);
            }
            store.commit(session);
            due("without a transaction", store.savepoint(session, 0), NOT_POSSIBLE);
            due("the number of them", store.session(session, 1), 0);
        }
    }

    /** "Each has a name, 0 to 7 (written a to h)" */
    void savepointsNames() {
        for (int name = 0; name <= 7; name++) {
            char letter = "abcdefgh".charAt(name);
            SavepointStore store = OPEN.made();
            due("0s" + letter, Checks.perform(store, "0s" + letter), 1);
            due("nameOf(0, 0)", store.nameOf(0, 0), name);
            store.write(0, 0, 5);
            due("undoTo(0, " + name + ")", store.undoTo(0, name), 1);
            store.write(0, 0, 5);
            due("0u" + letter, Checks.perform(store, "0u" + letter), 1);
            due("value(0)", store.value(0), NONE);
            due("0d" + letter, Checks.perform(store, "0d" + letter), 1);
            due("nearest(0, " + name + ")", store.nearest(0, name), NONE);
        }
        for (int name : NO_NAMES) {
            due("savepoint(0, " + name + ")", OPEN.made().savepoint(0, name), BAD_VALUE);
        }
        due("a letter before a", Checks.perform(OPEN.made(), "0s`"), -102);
        due("a letter behind h", Checks.perform(OPEN.made(), "0si"), -102);
    }

    /** "several savepoints can have the same name" */
    void savepointsOfTheSameName() {
        SavepointStore store = OPEN.made();
        for (int name : new int[] {3, 3, 0, 3, 0, 7}) {
            store.savepoint(0, name);
        }
        due("all are there", store.session(0, 1), 6);
        int[] names = {3, 3, 0, 3, 0, 7, NO_SUCH};
        for (int number = 0; number < names.length; number++) {
            due("nameOf(0, " + number + ")", store.nameOf(0, number), names[number]);
        }
        store.begin(1);
        due("the same name in another session", store.savepoint(1, 3), 0);
        due("it is that session's own", store.nearest(0, 3), 3);
    }

    /** "The nearest savepoint of a name is the one with this name that has the greatest number." */
    void savepointsNearest() {
        int[] names = {2, 5, 2, 0, 5, 7, 2, 6, 0, 1, 1, 6};
        Run marked = OPEN.then(store -> {
            for (int number = 0; number < names.length; number++) {
                store.savepoint(0, names[number]);
                store.write(0, number, number);
            }
        });
        for (int name = 0; name <= 7; name++) {
            int greatest = NONE;
            for (int number = 0; number < names.length; number++) {
                greatest = names[number] == name ? number : greatest;
            }
            due("nearest(0, " + name + ")", marked.made().nearest(0, name), greatest);
            int going = names.length - greatest;
            boolean isThere = greatest >= 0;
            due("undoTo(0, " + name + ")", marked.made().undoTo(0, name), isThere ? going : NOT_POSSIBLE);
            due("release(0, " + name + ")", marked.made().release(0, name), isThere ? going : NOT_POSSIBLE);
            for (int key = 0; key < names.length; key++) {
                due("ifUndone(0, " + name + ", " + key + ")", marked.made().ifUndone(0, name, key),
                        !isThere ? NOT_POSSIBLE : key < greatest ? key : NONE);
            }
        }
    }

    /**
     * "Since the transaction began, and since each savepoint was set, it is known which keys the
     * transaction has changed since then, and for each of them the value that it had directly before the
     * first of these changes"
     */
    void savepointsKnownValues() {
        Run scene = OPEN.then(SavepointsTermsTest::changeBetweenSavepoints);
        SavepointStore store = scene.made();
        due("keys since the beginning", store.session(0, 2), 5);
        int[] since = {31, 29, 29, 25, 25, 17, 1, 0};
        int[][] values = {
            {NONE, NONE, NONE, NONE, NONE}, {NONE, 10, NONE, NONE, NONE}, {21, 10, NONE, NONE, NONE},
            {32, 10, 30, NONE, NONE}, {43, 10, 30, NONE, NONE}, {54, 10, 30, NONE, NONE},
            {65, 10, 30, NONE, 60}, {70, 10, 30, NONE, 60},
        };
        for (int number = 0; number <= 7; number++) {
            due("keys since " + number, store.changedSince(0, number, false), since[number]);
            for (int key = 0; key <= 4; key++) {
                due("ifUndone(0, " + number + ", " + key + ")", store.ifUndone(0, number, key), values[number][key]);
                SavepointStore undone = scene.made();
                undone.undoTo(0, number);
                due("value(" + key + ") behind undoTo " + number, undone.value(key), values[number][key]);
            }
        }
        due("rollback", store.rollback(0), 4);
        due("save", store.save(), 0);
    }

    /** Each savepoint bears its number as its name; every time the key 0 is changed twice, but for the last. */
    private static void changeBetweenSavepoints(SavepointStore store) {
        store.savepoint(0, 0);
        store.write(0, 1, 10);
        store.savepoint(0, 1);
        store.write(0, 0, 20);
        store.write(0, 0, 21);
        store.savepoint(0, 2);
        store.write(0, 2, 30);
        store.shift(0, 1, 11);
        store.savepoint(0, 3);
        store.shift(0, 1, 1);
        store.shift(0, 1, 10);
        store.savepoint(0, 4);
        store.shift(0, 1, 11);
        store.erase(0, 3);
        store.savepoint(0, 5);
        store.write(0, 0, 125);
        store.move(0, 0, 4, 60);
        store.savepoint(0, 6);
        store.erase(0, 0);
        store.write(0, 0, 70);
        store.savepoint(0, 7);
    }

    /** The value directly before the first change, which can be another one than at the moment itself. */
    void savepointsValueDirectlyBeforeTheFirstChange() {
        Run scene = Scenes.ALL_OPEN.then(store -> {
            store.savepoint(0, 0);
            store.write(1, 5, 7);
            store.commit(1);
            store.write(0, 5, 8);
            store.savepoint(0, 1);
            store.write(0, 5, 9);
        });
        due("ifUndone(0, 0, 5)", scene.made().ifUndone(0, 0, 5), 7);
        due("ifUndone(0, 1, 5)", scene.made().ifUndone(0, 1, 5), 8);
        due("committed(5)", scene.made().committed(5), 7);
        due("value(5) behind undoTo", valueBehind(scene.then(store -> store.undoTo(0, 0))), 7);
        due("value(5) behind rollback", valueBehind(scene.then(store -> store.rollback(0))), 7);
        due("commit of another value", scene.made().commit(0), 1);
        due("commit of the same value", scene.then(store -> store.write(0, 5, 7)).made().commit(0), 0);
    }

    private static int valueBehind(Run run) {
        return run.made().value(5);
    }

    /** "and likewise for which keys the lock mode .. has changed since then, and the mode .. before" */
    void savepointsKnownLocks() {
        Run scene = OPEN.then(store -> {
            store.read(0, 0);
            store.savepoint(0, 0);
            store.read(0, 0);
            store.read(0, 15);
            store.savepoint(0, 1);
            store.write(0, 0, 1);
            store.write(0, 7, 1);
            store.savepoint(0, 2);
            store.write(0, 15, 1);
            store.savepoint(0, 3);
            store.write(0, 7, 2);
        });
        int[] since = {1 | 1 << 7 | 1 << 15, 1 | 1 << 7 | 1 << 15, 1 << 15, 0};
        int[][] modes = {{1, 0, 0}, {1, 0, 1}, {2, 2, 1}, {2, 2, 2}};
        for (int number = 0; number <= 3; number++) {
            SavepointStore store = scene.made();
            due("locks since " + number, store.changedSince(0, number, true), since[number]);
            store.undoTo(0, number);
            due("mode(0, 0) behind undoTo " + number, store.mode(0, 0), modes[number][0]);
            due("mode(0, 7) behind undoTo " + number, store.mode(0, 7), modes[number][1]);
            due("mode(0, 15) behind undoTo " + number, store.mode(0, 15), modes[number][2]);
        }
    }

    /** "(A key is changed when a statement writes, erases, shifts or moves it, also if it has the same value" */
    void savepointsWhatChangesAKey() {
        dueChanges("write of the same value", store -> store.write(0, 0, 10), 1);
        dueChanges("erase of no value", store -> store.erase(0, 1), 2);
        dueChanges("erase of a free key without a value", store -> store.erase(0, 9), 1 << 9);
        dueChanges("shift by 0", store -> store.shift(0, 1, 0), 1);
        dueChanges("move", store -> store.move(0, 0, 9, 1), 1 | 1 << 9);
        dueChanges("move there and back", store -> {
            store.move(0, 0, 1, 1);
            return store.move(0, 1, 0, 1);
        }, 3);
        dueChanges("read", store -> store.read(0, 0), 0);
        dueChanges("read of another key", store -> store.read(0, 9), 0);
        dueChanges("a statement that failed", store -> store.shift(0, 3, 1), 0);
        dueChanges("keep", store -> store.keep(true), 0);
    }

    private void dueChanges(String name, Call call, int keys) {
        SavepointStore store = CHANGED.made();
        call.on(store);
        due("keys since the savepoint behind " + name, store.changedSince(0, 0, false), keys);
        due("keys since the beginning behind " + name, store.session(0, 2), Integer.bitCount(keys | 3));
    }

    /** "each key that was changed since then gets the value .. (or no value, if it had none)" */
    void savepointsUndoBringsBackValues() {
        SavepointStore store = CHANGED.then(SavepointsTermsTest::changeAll).made();
        store.undoTo(0, 0);
        for (int key = 0; key <= 15; key++) {
            due("value(" + key + ")", store.value(key), key == 0 ? 10 : NONE);
        }
        store.write(0, 0, 11);
        store.rollback(0);
        due("value(0) behind rollback", store.value(0), NONE);
    }

    private static void changeAll(SavepointStore store) {
        for (int key = 0; key <= 15; key++) {
            store.write(0, key, 100 + key);
        }
        store.shift(0, 65535, 1);
        store.erase(0, 0);
    }

    /** "If the setting KEEP is 0, each lock mode that has changed since then becomes the one that it was" */
    void savepointsUndoWithKeep0() {
        SavepointStore store = CHANGED.then(SavepointsTermsTest::changeAll).made();
        store.undoTo(0, 0);
        dueModes("shared", store, 0, 1, 1 << 2);
        dueModes("exclusive", store, 0, 2, 3);
        dueModes("no lock", store, 0, 0, 65535 & ~7);
    }

    /** "if KEEP is 1, the lock modes stay" */
    void savepointsUndoWithKeep1() {
        SavepointStore store = CHANGED.then(SavepointsTermsTest::changeAll).made();
        store.keep(true);
        store.undoTo(0, 0);
        dueModes("exclusive", store, 0, 2, 65535);
    }

    /** "Then it is as if the changes .. since this moment had not been made" */
    void savepointsAsIfNothingWasChanged() {
        Run undone = CHANGED.then(SavepointsTermsTest::changeAll).then(store -> store.undoTo(0, 0));
        sameState("behind undoTo with KEEP 0", undone, CHANGED);
        Run earlier = CHANGED.then(store -> {
            store.write(0, 3, 30);
            store.savepoint(0, 1);
        });
        Run later = earlier.then(SavepointsTermsTest::changeAll).then(store -> {
            store.savepoint(0, 1);
            store.erase(0, 3);
            store.undoTo(0, 1);
            store.release(0, 1);
            store.undoTo(0, 1);
        });
        sameState("behind undoTo, release and undoTo", later, earlier);
    }

    /** What was undone is no change by the transaction, also where another session changed the key then. */
    void savepointsUndoneChangesAreNobodys() {
        SavepointStore store = CHANGED.made();
        store.write(0, 3, 30);
        store.undoTo(0, 0);
        store.begin(1);
        due("the other's write", store.write(1, 3, 31), NONE);
        due("committed(3)", store.committed(3), NONE);
        due("the other's commit", store.commit(1), 1);
        due("committed(3)", store.committed(3), 31);
        due("keys since the beginning", store.session(0, 2), 2);
        due("undoTo", store.undoTo(0, 0), 0);
        due("value(3)", store.value(3), 31);
        due("rollback", store.rollback(0), 1);
        due("value(3)", store.value(3), 31);
    }

    /** With KEEP 1: "as if the changes of values .. had not been made", but not those of lock modes. */
    void savepointsAsIfNoValueWasChangedWithKeep1() {
        SavepointStore store = CHANGED.then(SavepointsTermsTest::changeAll).made();
        store.keep(true);
        store.undoTo(0, 0);
        due("keys since the savepoint", store.changedSince(0, 0, false), 0);
        due("keys since the beginning", store.session(0, 2), 2);
        due("committed(5)", store.committed(5), NONE);
        due("undoTo once more", store.undoTo(0, 0), 0);
        due("commit", store.commit(0), 1);
    }

    /** "if KEEP is 1, what is known of changes of lock modes stays" */
    void savepointsKnownLocksStayWithKeep1() {
        SavepointStore store = CHANGED.made();
        store.read(0, 3);
        store.savepoint(0, 1);
        store.write(0, 3, 30);
        store.write(0, 4, 40);
        store.keep(true);
        store.undoTo(0, 1);
        due("locks since the savepoint undone to", store.changedSince(0, 1, true), 1 << 3 | 1 << 4);
        due("locks since the one before it", store.changedSince(0, 0, true), 1 << 3 | 1 << 4);
        store.savepoint(0, 2);
        due("locks since a new one", store.changedSince(0, 2, true), 0);
        store.keep(false);
        store.undoTo(0, 1);
        due("mode(0, 3) as it was at the savepoint", store.mode(0, 3), 1);
        due("mode(0, 4) as it was at the savepoint", store.mode(0, 4), 0);
        due("locks since the one before it", store.changedSince(0, 0, true), 1 << 3);
        store.undoTo(0, 0);
        due("mode(0, 3) as it was at the first", store.mode(0, 3), 0);
    }

    // ---- "Statements"

    /** "A statement is done key by key, in the order that is told with the method." */
    void statementsKeyByKey() {
        Run scene = CHANGED.then(store -> {
            store.begin(1);
            store.write(1, 8, 8);
            store.keep(true);
        });
        SavepointStore store = scene.made();
        due("shift: busy at 8 before 9", store.shift(0, 1 << 8 | 1 << 9, 1), BUSY);
        dueModes("the keys behind the busy one are not locked", store, 0, 2, 3);
        due("shift: no value at 3 before 8", store.shift(0, 1 | 1 << 3 | 1 << 8, 1), FAILED);
        dueModes("the keys before it were locked", store, 0, 2, 3 | 1 << 3);
        due("move: no value at 9 before 8", store.move(0, 9, 8, 1), FAILED);
        dueModes("the key it is taken from was locked", store, 0, 2, 3 | 1 << 3 | 1 << 9);
        due("move: busy at 8 before 5", store.move(0, 8, 5, 1), BUSY);
        due("move: too little at 0 before 6", store.move(0, 0, 6, 11), FAILED);
        dueModes("the key it goes to was not locked", store, 0, 2, 3 | 1 << 3 | 1 << 9);
        due("move: enough at 0, too much at none", store.move(0, 0, 6, 10), 10);
    }

    /** "For each key first the key is locked (with the mode 1 by read, with the mode 2 by all others)" */
    void statementsLockFirst() {
        dueMode("read", store -> store.read(0, 9), 1);
        dueMode("write", store -> store.write(0, 9, 1), 2);
        dueMode("erase", store -> store.erase(0, 9), 2);
        dueMode("shift", store -> store.shift(0, 1 << 9, 1), 2);
        dueMode("move from", store -> store.move(0, 9, 0, 1), 2);
        dueMode("move to", store -> store.move(0, 0, 9, 1), 2);
        Run locked = CHANGED.then(store -> {
            store.begin(1);
            store.erase(1, 9);
        });
        due("shift of a busy key without a value", locked.made().shift(0, 1 << 9, 1), BUSY);
        due("move from a busy key without a value", locked.made().move(0, 9, 0, 1), BUSY);
        due("read of a busy key without a value", locked.made().read(0, 9), BUSY);
        due("erase of a busy key without a value", locked.made().erase(0, 9), BUSY);
    }

    /** With KEEP 1 the lock stays also if the statement fails. */
    private void dueMode(String name, Call statement, int mode) {
        SavepointStore store = CHANGED.made();
        store.keep(true);
        statement.on(store);
        due("mode(0, 9) behind " + name, store.mode(0, 9), mode);
    }

    /** "If a key is busy, the statement ends with BUSY" */
    void statementsBusy() {
        Run shared = CHANGED.then(store -> {
            store.begin(2);
            store.read(2, 9);
        });
        Run exclusive = shared.then(store -> store.write(2, 9, 5));
        Call[] changes = {
            store -> store.write(0, 9, 1), store -> store.erase(0, 9), store -> store.shift(0, 1 | 1 << 9, 1),
            store -> store.move(0, 9, 0, 1), store -> store.move(0, 0, 9, 1),
        };
        for (int change = 0; change < changes.length; change++) {
            due("change " + change + " beside shared", changes[change].on(shared.made()), BUSY);
            due("change " + change + " beside exclusive", changes[change].on(exclusive.made()), BUSY);
        }
        due("read beside shared", shared.made().read(0, 9), NONE);
        due("read beside exclusive", exclusive.made().read(0, 9), BUSY);
    }

    /** "if a value would not be from 0 to 9999, or a key has no value where one is needed, .. FAILED" */
    void statementsFailed() {
        due("shift below 0", CHANGED.made().shift(0, 1, -11), FAILED);
        due("shift to 0", CHANGED.made().shift(0, 1, -10), 1);
        due("shift above 9999", CHANGED.made().shift(0, 1, 9990), FAILED);
        due("shift to 9999", CHANGED.made().shift(0, 1, 9989), 1);
        due("shift of no value", CHANGED.made().shift(0, 2, 1), FAILED);
        due("move of more than there is", CHANGED.made().move(0, 0, 1, 11), FAILED);
        due("move of all", CHANGED.made().move(0, 0, 1, 10), 10);
        due("move from no value", CHANGED.made().move(0, 1, 0, 1), FAILED);
        Run full = CHANGED.then(store -> store.write(0, 1, 9990));
        due("move to above 9999", full.made().move(0, 0, 1, 10), FAILED);
        due("move to 9999", full.made().move(0, 0, 1, 9), 9999);
        due("read needs no value", CHANGED.made().read(0, 1), NONE);
        due("erase needs no value", CHANGED.made().erase(0, 1), NONE);
    }

    /** "Then the transaction is undone to the moment directly before the statement", and no further. */
    void statementsUndoneAlone() {
        Run scene = CHANGED.then(store -> {
            store.begin(1);
            store.write(1, 8, 8);
            store.write(0, 0, 12);
            store.read(0, 5);
        });
        undone("shift of a key changed before", FAILED, store -> store.shift(0, 1 | 1 << 4, 1), scene);
        undone("shift that is busy later", BUSY, store -> store.shift(0, 1 | 1 << 8, 1), scene);
        undone("move to a busy key", BUSY, store -> store.move(0, 0, 8, 1), scene);
        SavepointStore store = scene.made();
        store.shift(0, 1 | 1 << 4, 1);
        due("the change before it stays", store.value(0), 12);
        due("it stays known", store.changedSince(0, 0, false), 1);
        due("the lock before it stays", store.mode(0, 5), 1);
        due("it stays known", store.changedSince(0, 0, true), 1 << 5);
    }

    /** "(as described above, so KEEP decides on the locks that the statement has taken)" */
    void statementsKeepDecidesOnTheLocks() {
        for (int keep = 0; keep <= 1; keep++) {
            boolean isKept = keep == 1;
            SavepointStore store = CHANGED.made();
            store.keep(isKept);
            due("shift", store.shift(0, 1 | 1 << 2 | 1 << 3, 1), FAILED);
            due("the value is undone in any case", store.value(0), 10);
            dueModes("shared", store, 0, 1, isKept ? 0 : 1 << 2);
            dueModes("exclusive", store, 0, 2, isKept ? 7 : 3);
            due("locks since the savepoint", store.changedSince(0, 0, true), isKept ? 1 << 2 : 0);
            due("keys since the savepoint", store.changedSince(0, 0, false), 0);
            store.keep(false);
            store.undoTo(0, 0);
            dueModes("shared behind undoTo", store, 0, 1, 1 << 2);
        }
    }

    /** "the savepoints stay" */
    void statementsSavepointsStay() {
        SavepointStore store = Scenes.FULL_SAVEPOINTS.made();
        due("busy", store.write(1, 0, 1), BUSY);
        due("failed", store.shift(0, 1 | 1 << 15, 1), FAILED);
        due("failed", store.shift(1, 1 << 15, 1), FAILED);
        due("session(0, 1)", store.session(0, 1), 12);
        due("session(1, 1)", store.session(1, 1), 1);
        for (int savepoint = 0; savepoint <= 11; savepoint++) {
            due("nameOf(0, " + savepoint + ")", store.nameOf(0, savepoint), savepoint % 8);
            due("keys since " + savepoint, store.changedSince(0, savepoint, false), 4095 & -(1 << savepoint));
        }
    }

    /** "BUSY and FAILED are no error codes: the call is an action in any case." */
    void statementsAreActionsInAnyCase() {
        Run scene = CHANGED.then(store -> {
            store.begin(1);
            store.write(1, 8, 8);
        });
        recorded("read that is busy", store -> store.read(0, 8), scene);
        recorded("write that is busy", store -> store.write(0, 8, 1), scene);
        recorded("erase that is busy", store -> store.erase(0, 8), scene);
        recorded("shift that is busy", store -> store.shift(0, 1 << 8, 1), scene);
        recorded("move that is busy", store -> store.move(0, 0, 8, 1), scene);
        recorded("shift that failed", store -> store.shift(0, 1 << 3, 1), scene);
        recorded("move that failed", store -> store.move(0, 3, 0, 1), scene);
    }
}
