/** The boundary cases of promises 6 to 8 and of the section "Savepoints". */
public final class SavepointsBoundaryTest extends Cases {
    private static final Run OPEN = store -> store.begin(0);

    public static void main(String[] args) throws ReflectiveOperationException {
        new SavepointsBoundaryTest().runAll(6, 8);
    }

    /** Session 0 with twelve savepoints of one name; key n is changed behind the savepoint n. */
    private static SavepointStore twelveOfOneName(int name) {
        SavepointStore store = OPEN.made();
        for (int savepoint = 0; savepoint < 12; savepoint++) {
            store.savepoint(0, name);
            store.write(0, savepoint, savepoint);
        }
        return store;
    }

    // ---- 6: savepoint

    void promise6NoSuchSession() {
        for (int session : NO_SESSIONS) {
            refused("savepoint(" + session + ", 0)", NO_SUCH, store -> store.savepoint(session, 0),
                    Scenes.NOTHING, Scenes.MIXED, Scenes.FULL_SAVEPOINTS);
        }
    }

    void promise6NameOutOfRange() {
        for (int name : NO_NAMES) {
            refused("savepoint(0, " + name + ")", BAD_VALUE, store -> store.savepoint(0, name),
                    OPEN, Scenes.MIXED);
        }
    }

    void promise6NoOpenTransaction() {
        for (int name = 0; name <= 7; name++) {
            int any = name;
            refused("savepoint(2, " + name + ")", NOT_POSSIBLE, store -> store.savepoint(2, any),
                    Scenes.NOTHING, Scenes.MIXED, Scenes.FULL_SAVEPOINTS);
        }
        refused("savepoint(0, 0)", NOT_POSSIBLE, store -> store.savepoint(0, 0), Scenes.FULL_STORE);
    }

    void promise6ThirteenthSavepoint() {
        for (int name = 0; name <= 7; name++) {
            int any = name;
            refused("savepoint(0, " + name + ")", TOO_MANY, store -> store.savepoint(0, any),
                    Scenes.FULL_SAVEPOINTS);
        }
    }

    void promise6FirstCodeOfTwo() {
        for (int session : NO_SESSIONS) {
            refused("savepoint(" + session + ", 8)", NO_SUCH, store -> store.savepoint(session, 8),
                    Scenes.MIXED);
            refused("savepoint(" + session + ", -1)", NO_SUCH, store -> store.savepoint(session, -1),
                    Scenes.NOTHING);
        }
        for (int name : NO_NAMES) {
            refused("savepoint(2, " + name + ") of a closed session", BAD_VALUE,
                    store -> store.savepoint(2, name), Scenes.NOTHING, Scenes.MIXED);
            refused("savepoint(0, " + name + ") as the thirteenth", BAD_VALUE,
                    store -> store.savepoint(0, name), Scenes.FULL_SAVEPOINTS);
        }
    }

    void promise6LeastAndGreatestArguments() {
        for (int session = 0; session <= 2; session++) {
            for (int name = 0; name <= 7; name++) {
                SavepointStore store = Scenes.ALL_OPEN.made();
                due("savepoint(" + session + ", " + name + ")", store.savepoint(session, name), 0);
                due("nameOf(" + session + ", 0)", store.nameOf(session, 0), name);
                for (int other = 0; other <= 2; other++) {
                    due("session(" + other + ", 1)", store.session(other, 1), other == session ? 1 : 0);
                }
            }
        }
    }

    /** "up to 12 savepoints, numbered from 0 in the order in which they were set" */
    void promise6NumbersFrom0To11() {
        SavepointStore store = OPEN.made();
        for (int number = 0; number <= 11; number++) {
            due("savepoint " + number, store.savepoint(0, 7 - number % 8), number);
            due("session(0, 1)", store.session(0, 1), number + 1);
            due("total(6)", store.total(6), number + 1);
        }
        for (int number = 0; number <= 11; number++) {
            due("nameOf(0, " + number + ")", store.nameOf(0, number), 7 - number % 8);
        }
    }

    /** "several savepoints can have the same name" */
    void promise6TwelveOfOneName() {
        for (int name = 0; name <= 7; name += 7) {
            SavepointStore store = twelveOfOneName(name);
            due("session(0, 1)", store.session(0, 1), 12);
            due("nearest(0, " + name + ")", store.nearest(0, name), 11);
            due("a thirteenth", store.savepoint(0, name), TOO_MANY);
        }
    }

    void promise6EachSessionHasTwelve() {
        SavepointStore store = Scenes.ALL_OPEN.made();
        for (int number = 0; number < 12; number++) {
            for (int session = 0; session < 3; session++) {
                due("savepoint(" + session + ", 3)", store.savepoint(session, 3), number);
            }
        }
        for (int session = 0; session < 3; session++) {
            due("savepoint(" + session + ", 3)", store.savepoint(session, 3), TOO_MANY);
        }
        due("total(6)", store.total(6), 36);
    }

    void promise6RoomAgain() {
        SavepointStore store = twelveOfOneName(0);
        due("release of the last", store.release(0, 0), 1);
        due("the twelfth again", store.savepoint(0, 1), 11);
        due("a thirteenth", store.savepoint(0, 1), TOO_MANY);
        store.undoTo(0, 1);
        due("undoTo of the last leaves no room", store.savepoint(0, 1), TOO_MANY);
        store.undoTo(0, 0);
        due("undoTo of the last but one does", store.savepoint(0, 1), 11);
        store.commit(0);
        store.begin(0);
        due("the first of a new transaction", store.savepoint(0, 1), 0);
    }

    /** A statement is undone alone, also behind the twelfth savepoint. */
    void promise6StatementsBehindTwelve() {
        undone("shift of no value", FAILED, store -> store.shift(0, 3 | 1 << 12, 1), Scenes.FULL_SAVEPOINTS);
        SavepointStore store = Scenes.FULL_SAVEPOINTS.made();
        due("write", store.write(0, 0, 5), 100);
        due("since the savepoint 11", store.changedSince(0, 11, false), 1 << 11 | 1);
        due("undoTo of the savepoint 11", store.undoTo(0, 3), 2);
        due("value(0)", store.value(0), 100);
    }

    void promise6IsRecorded() {
        recorded("savepoint(0, 0)", store -> store.savepoint(0, 0), OPEN);
        recorded("savepoint(1, 7)", store -> store.savepoint(1, 7), Scenes.MIXED);
    }

    // ---- 7: undoTo

    void promise7NoSuchSession() {
        noSuchSession("undoTo", SavepointStore::undoTo);
    }

    void promise7NameOutOfRange() {
        nameOutOfRange("undoTo", SavepointStore::undoTo);
    }

    void promise7NoOpenTransaction() {
        noOpenTransaction("undoTo", SavepointStore::undoTo);
    }

    void promise7NoSavepointOfThisName() {
        noSavepointOfThisName("undoTo", SavepointStore::undoTo);
    }

    void promise7FirstCodeOfTwo() {
        firstCodeOfTwo("undoTo", SavepointStore::undoTo);
    }

    void promise7LeastAndGreatestArguments() {
        for (int session = 0; session <= 2; session++) {
            for (int name = 0; name <= 7; name++) {
                SavepointStore store = Scenes.ALL_OPEN.made();
                for (int other = 0; other <= 2; other++) {
                    store.savepoint(other, name);
                    store.write(other, other, 5);
                }
                due("undoTo(" + session + ", " + name + ")", store.undoTo(session, name), 1);
                for (int other = 0; other <= 2; other++) {
                    due("value(" + other + ")", store.value(other), other == session ? NONE : 5);
                }
            }
        }
    }

    private void dueUndoTo(Change... changes) {
        for (Change change : changes) {
            Run before = change.committed().then(store -> {
                store.begin(1);
                store.savepoint(1, 6);
            });
            Run behind = before.then(change.during());
            due("undoTo behind " + change.name(), behind.made().undoTo(1, 6), change.keys());
            sameState("undoTo behind " + change.name() + " brings back all",
                    behind.then(store -> store.undoTo(1, 6)), before);
        }
    }

    /** "Returns the number of keys that get another value by this" */
    void promise7NoKeyGetsAnotherValue() {
        dueUndoTo(Change.OF_NO_KEY);
    }

    /** "(or a value instead of none, or none instead of a value)" */
    void promise7OneKeyOfEachKind() {
        dueUndoTo(Change.OF_ONE_KEY);
    }

    void promise7AllKeys() {
        dueUndoTo(Change.OF_ALL_KEYS);
    }

    /** "The savepoint remains, those with greater numbers go." */
    void promise7SavepointRemainsAndGreaterOnesGo() {
        for (int number = 4; number <= 11; number++) {
            SavepointStore store = Scenes.FULL_SAVEPOINTS.made();
            int name = number % 8;
            due("undoTo(0, " + name + ")", store.undoTo(0, name), 12 - number);
            due("session(0, 1)", store.session(0, 1), number + 1);
            due("nameOf(0, " + number + ")", store.nameOf(0, number), name);
            due("nameOf(0, " + (number + 1) + ")", store.nameOf(0, number + 1), NO_SUCH);
            due("the last value that stays", store.value(number - 1), 99 + number);
            due("the first value that goes", store.value(number), NONE);
            due("undoTo(0, " + name + ") again", store.undoTo(0, name), 0);
        }
        SavepointStore store = Scenes.FULL_SAVEPOINTS.made();
        store.write(0, 15, 5);
        store.undoTo(0, 4);
        store.release(0, 3);
        due("the first one, past all others", store.undoTo(0, 0), 4);
        due("session(0, 1)", store.session(0, 1), 1);
    }

    /** "Undoes to the nearest savepoint of a name": the one that has the greatest number. */
    void promise7NearestOfTwelve() {
        SavepointStore store = twelveOfOneName(5);
        due("undoTo(0, 5)", store.undoTo(0, 5), 1);
        due("value(11)", store.value(11), NONE);
        due("value(10)", store.value(10), 10);
        due("session(0, 1)", store.session(0, 1), 12);
        for (int left = 11; left >= 1; left--) {
            due("release", store.release(0, 5), 1);
            due("undoTo(0, 5)", store.undoTo(0, 5), 1);
            due("value(" + (left - 1) + ")", store.value(left - 1), NONE);
            due("session(0, 1)", store.session(0, 1), left);
        }
        due("release of the last", store.release(0, 5), 1);
        due("undoTo(0, 5)", store.undoTo(0, 5), NOT_POSSIBLE);
    }

    /** "the value that it had directly before the first of these changes" */
    void promise7FirstChangeSinceThen() {
        SavepointStore store = OPEN.made();
        store.write(0, 0, 1);
        store.write(0, 0, 2);
        store.savepoint(0, 0);
        store.write(0, 0, 3);
        store.write(0, 0, 4);
        store.savepoint(0, 1);
        store.write(0, 0, 5);
        store.write(0, 0, 6);
        due("undoTo(0, 1)", store.undoTo(0, 1), 1);
        due("value(0)", store.value(0), 4);
        due("undoTo(0, 0)", store.undoTo(0, 0), 1);
        due("value(0)", store.value(0), 2);
    }

    /** "as if the changes of values since this moment had not been made" */
    void promise7UndoneChangesAreNotKnown() {
        SavepointStore store = OPEN.made();
        store.savepoint(0, 0);
        store.write(0, 0, 1);
        store.savepoint(0, 1);
        store.write(0, 0, 2);
        store.write(0, 15, 3);
        store.undoTo(0, 1);
        due("since the savepoint undone to", store.changedSince(0, 1, false), 0);
        due("since one before it", store.changedSince(0, 0, false), 1);
        due("since the beginning", store.session(0, 2), 1);
        store.undoTo(0, 0);
        due("since the first one", store.changedSince(0, 0, false), 0);
        due("since the beginning", store.session(0, 2), 0);
    }

    /** "If the setting KEEP is 0, each lock mode that has changed since then becomes the one that it was" */
    void promise7LocksWithKeep0() {
        SavepointStore store = locksRaised();
        store.undoTo(0, 0);
        dueModes("no mode", store, 0, 0, 65535 & ~(1 | 1 << 1 | 1 << 15));
        dueModes("shared", store, 0, 1, 1 | 1 << 15);
        dueModes("exclusive", store, 0, 2, 1 << 1);
        due("locks since", store.changedSince(0, 0, true), 0);
        due("a lock given back is free", store.busyFor(2, 2), 0);
    }

    /** "if KEEP is 1, the lock modes stay", and "what is known of changes of lock modes stays" */
    void promise7LocksWithKeep1() {
        SavepointStore store = locksRaised();
        store.keep(true);
        store.undoTo(0, 0);
        dueModes("shared", store, 0, 1, 1 << 3);
        dueModes("exclusive", store, 0, 2, 1 | 1 << 1 | 1 << 2 | 1 << 15);
        due("locks since", store.changedSince(0, 0, true), 1 | 1 << 2 | 1 << 3 | 1 << 15);
        due("values since", store.changedSince(0, 0, false), 0);
        due("a kept lock is busy for the others", store.busyFor(2, 1), 6);
        store.keep(false);
        due("undoTo once more", store.undoTo(0, 0), 0);
        dueModes("shared", store, 0, 1, 1 | 1 << 15);
        dueModes("exclusive", store, 0, 2, 1 << 1);
        due("locks since", store.changedSince(0, 0, true), 0);
    }

    /** From no mode, shared and exclusive, at the least and the greatest key. */
    private static SavepointStore locksRaised() {
        SavepointStore store = OPEN.made();
        store.read(0, 0);
        store.read(0, 15);
        store.write(0, 1, 1);
        store.savepoint(0, 0);
        store.write(0, 0, 1);
        store.write(0, 15, 1);
        store.write(0, 1, 2);
        store.write(0, 2, 1);
        store.read(0, 3);
        return store;
    }

    /** "if KEEP is 1" at undoTo counts, not at the savepoint nor at the statement. */
    void promise7KeepAtTheCallDecides() {
        SavepointStore store = OPEN.made();
        store.keep(true);
        store.savepoint(0, 0);
        store.write(0, 0, 1);
        store.keep(false);
        store.undoTo(0, 0);
        due("mode(0, 0)", store.mode(0, 0), 0);
        store.write(0, 0, 1);
        store.keep(true);
        store.undoTo(0, 0);
        due("mode(0, 0)", store.mode(0, 0), 2);
    }

    void promise7CountsOnlyWhatIsPossible() {
        SavepointStore store = Scenes.FULL_SAVEPOINTS.made();
        due("total(5)", store.total(5), 0);
        store.undoTo(0, 8);
        store.undoTo(3, 0);
        store.undoTo(2, 0);
        due("total(5)", store.total(5), 0);
        store.undoTo(0, 3);
        due("total(5)", store.total(5), 1);
    }

    void promise7IsRecordedEvenWithoutAChange() {
        recorded("undoTo(0, 0)", store -> store.undoTo(0, 0), OPEN.then(store -> store.savepoint(0, 0)));
        recorded("undoTo(0, 3)", store -> store.undoTo(0, 3), Scenes.MIXED);
    }

    // ---- 8: release

    void promise8NoSuchSession() {
        noSuchSession("release", SavepointStore::release);
    }

    void promise8NameOutOfRange() {
        nameOutOfRange("release", SavepointStore::release);
    }

    void promise8NoOpenTransaction() {
        noOpenTransaction("release", SavepointStore::release);
    }

    void promise8NoSavepointOfThisName() {
        noSavepointOfThisName("release", SavepointStore::release);
    }

    void promise8FirstCodeOfTwo() {
        firstCodeOfTwo("release", SavepointStore::release);
    }

    void promise8LeastAndGreatestArguments() {
        for (int session = 0; session <= 2; session++) {
            for (int name = 0; name <= 7; name++) {
                SavepointStore store = Scenes.ALL_OPEN.made();
                for (int other = 0; other <= 2; other++) {
                    store.savepoint(other, name);
                }
                due("release(" + session + ", " + name + ")", store.release(session, name), 1);
                for (int other = 0; other <= 2; other++) {
                    due("session(" + other + ", 1)", store.session(other, 1), other == session ? 0 : 1);
                }
            }
        }
    }

    /** "Returns the number of savepoints that go": from the last one alone to all twelve. */
    void promise8FromOneToTwelve() {
        for (int number = 4; number <= 11; number++) {
            SavepointStore store = Scenes.FULL_SAVEPOINTS.made();
            due("release(0, " + number % 8 + ")", store.release(0, number % 8), 12 - number);
            due("session(0, 1)", store.session(0, 1), number);
            due("nameOf(0, " + (number - 1) + ")", store.nameOf(0, number - 1), (number - 1) % 8);
            due("nameOf(0, " + number + ")", store.nameOf(0, number), NO_SUCH);
        }
        SavepointStore store = OPEN.made();
        store.savepoint(0, 7);
        for (int savepoint = 1; savepoint < 12; savepoint++) {
            store.savepoint(0, savepoint % 7);
        }
        due("release of the first", store.release(0, 7), 12);
        due("session(0, 1)", store.session(0, 1), 0);
    }

    /** "Releases the nearest savepoint of a name" */
    void promise8NearestOfTwelve() {
        SavepointStore store = twelveOfOneName(0);
        for (int left = 11; left >= 0; left--) {
            due("release(0, 0)", store.release(0, 0), 1);
            due("session(0, 1)", store.session(0, 1), left);
        }
        due("release(0, 0)", store.release(0, 0), NOT_POSSIBLE);
    }

    /** "the values and the locks stay", whatever KEEP is. */
    void promise8ValuesAndLocksStay() {
        for (int keep = 0; keep <= 1; keep++) {
            SavepointStore store = Scenes.FULL_SAVEPOINTS.made();
            store.keep(keep == 1);
            store.release(0, 4);
            for (int key = 0; key < 12; key++) {
                due("value(" + key + ")", store.value(key), 100 + key);
            }
            dueModes("exclusive", store, 0, 2, 4095);
            due("changes since the beginning", store.session(0, 2), 12);
            due("changes since the savepoint 3", store.changedSince(0, 3, false), 4095 & ~7);
            due("locks since the savepoint 3", store.changedSince(0, 3, true), 4095 & ~7);
            due("undoTo the savepoint 3", store.undoTo(0, 3), 9);
            due("value(2)", store.value(2), 102);
            due("value(3)", store.value(3), NONE);
            dueModes("exclusive", store, 0, 2, keep == 1 ? 4095 : 7);
        }
    }

    /** Released savepoints leave the value before the first change, not that of a later one. */
    void promise8FirstChangeStaysKnown() {
        SavepointStore store = OPEN.made();
        store.savepoint(0, 0);
        store.write(0, 0, 1);
        store.savepoint(0, 1);
        store.write(0, 0, 2);
        store.write(0, 15, 9);
        store.savepoint(0, 2);
        store.write(0, 0, 3);
        store.write(0, 15, 10);
        due("release(0, 2)", store.release(0, 2), 1);
        due("ifUndone(0, 1, 0)", store.ifUndone(0, 1, 0), 1);
        due("ifUndone(0, 1, 15)", store.ifUndone(0, 1, 15), NONE);
        due("release(0, 1)", store.release(0, 1), 1);
        due("ifUndone(0, 0, 0)", store.ifUndone(0, 0, 0), NONE);
        due("undoTo(0, 0)", store.undoTo(0, 0), 2);
    }

    void promise8IsRecorded() {
        recorded("release(0, 0)", store -> store.release(0, 0), OPEN.then(store -> store.savepoint(0, 0)));
        recorded("release(0, 2)", store -> store.release(0, 2), Scenes.MIXED);
    }

    // ---- what undoTo and release share

    private void noSuchSession(String method, Call.OfTwo call) {
        for (int session : NO_SESSIONS) {
            refused(method + "(" + session + ", 2)", NO_SUCH, call.by(session, 2),
                    Scenes.NOTHING, Scenes.MIXED, Scenes.FULL_SAVEPOINTS);
        }
    }

    private void nameOutOfRange(String method, Call.OfTwo call) {
        for (int name : NO_NAMES) {
            refused(method + "(0, " + name + ")", BAD_VALUE, call.by(0, name),
                    Scenes.MIXED, Scenes.FULL_SAVEPOINTS);
        }
    }

    private void noOpenTransaction(String method, Call.OfTwo call) {
        for (int name = 0; name <= 7; name++) {
            refused(method + "(2, " + name + ")", NOT_POSSIBLE, call.by(2, name),
                    Scenes.NOTHING, Scenes.MIXED, Scenes.FULL_SAVEPOINTS);
        }
        refused(method + " behind the end", NOT_POSSIBLE, call.by(0, 3),
                Scenes.FULL_SAVEPOINTS.then(store -> store.commit(0)),
                Scenes.FULL_SAVEPOINTS.then(store -> store.rollback(0)));
    }

    private void noSavepointOfThisName(String method, Call.OfTwo call) {
        for (int name : new int[] {0, 1, 4, 5, 6, 7}) {
            refused(method + "(0, " + name + ")", NOT_POSSIBLE, call.by(0, name), Scenes.MIXED);
        }
        refused(method + "(1, 2), a name of session 0", NOT_POSSIBLE, call.by(1, 2), Scenes.MIXED);
        refused(method + "(0, 0) without savepoints", NOT_POSSIBLE, call.by(0, 0), OPEN);
        refused(method + " of a released one", NOT_POSSIBLE, call.by(1, 4),
                Scenes.MIXED.then(store -> store.release(1, 4)));
        refused(method + " of one that went by undoTo", NOT_POSSIBLE, call.by(0, 7),
                Scenes.FULL_SAVEPOINTS.then(store -> store.undoTo(0, 6)));
        refused(method + " of one that went by release", NOT_POSSIBLE, call.by(0, 7),
                Scenes.FULL_SAVEPOINTS.then(store -> store.release(0, 6)));
        refused(method + " of an earlier transaction's", NOT_POSSIBLE, call.by(0, 3),
                Scenes.FULL_SAVEPOINTS.then(store -> store.commit(0)).then(OPEN));
    }

    private void firstCodeOfTwo(String method, Call.OfTwo call) {
        for (int session : NO_SESSIONS) {
            refused(method + "(" + session + ", 8)", NO_SUCH, call.by(session, 8), Scenes.NOTHING, Scenes.MIXED);
            refused(method + "(" + session + ", -1)", NO_SUCH, call.by(session, -1), Scenes.MIXED);
        }
        for (int name : NO_NAMES) {
            refused(method + "(2, " + name + ") of a closed session", BAD_VALUE, call.by(2, name),
                    Scenes.NOTHING, Scenes.MIXED);
            refused(method + "(0, " + name + ") without a savepoint", BAD_VALUE, call.by(0, name), OPEN);
        }
    }
}
