/** The sections "Actions and history" and "Errors" of the document's terms, a sentence or a part of one each. */
public final class HistoryTermsTest extends Cases {
    /**
     * KEEP is 0; session 0 is open, has changed the key 0 since its two savepoints and shares the key 2,
     * session 1 is open, session 2 closed. There are a text and a snapshot, and five states.
     */
    private static final Run SCENE = store -> {
        store.begin(2);
        store.write(2, 0, 100);
        store.commit(2);
        store.begin(0);
        store.read(0, 2);
        store.savepoint(0, 1);
        store.write(0, 0, 101);
        store.save();
        store.savepoint(0, 4);
        store.write(0, 0, 102);
        store.begin(1);
        Scenes.type(store, "1sc;1g7");
    };

    public static void main(String[] args) throws ReflectiveOperationException {
        new HistoryTermsTest().runAll("actionsAndHistory", "errors");
    }

    // ---- "Actions and history"

    /** "The actions are keep, begin, .. perform and restore.": they are recorded, and no other method is. */
    void actionsAndHistoryWhatAnActionIs() {
        for (int action = 0; action < Actions.ALL.length; action++) {
            recorded("action " + action, Actions.ALL[action], SCENE);
        }
        isNoAction("query", Actions.QUERIES);
        isNoAction("call", Actions.OTHERS);
        due("states behind undo, which is none", statesOf(SCENE.then(SavepointStore::undo)), 4);
    }

    private void isNoAction(String name, Call... calls) {
        Run before = SCENE.then(SavepointStore::undo);
        for (int number = 0; number < calls.length; number++) {
            Run back = SCENE.then(calls[number]::on).then(SavepointStore::undo);
            sameState("the state behind " + name + " " + number + " and undo", back, before);
            due("states behind " + name + " " + number + " and undo", statesOf(back), 4);
        }
    }

    /** "The state consists of the setting, the values, the transactions .., the locks, and the numbers" */
    void actionsAndHistoryWhatTheStateIs() {
        Run[] ways = {
            SCENE.then(Actions.COMMIT::on).then(SavepointStore::undo),
            SCENE.then(SavepointStore::save).then(HistoryTermsTest::disturb).then(SavepointStore::restore),
        };
        for (Run way : ways) {
            due("the setting", way.made().keep(true), 0);
            due("a value", way.made().value(0), 102);
            due("a transaction", way.made().session(0, 0), 1);
            due("a closed session", way.made().session(2, 0), 0);
            due("its savepoints", way.made().session(0, 1), 2);
            due("the name of a savepoint", way.made().nameOf(0, 1), 4);
            due("keys since a savepoint", way.made().changedSince(0, 1, false), 1);
            due("a value before the first change", way.made().ifUndone(0, 4, 0), 101);
            due("locks since a savepoint", way.made().changedSince(0, 0, true), 1);
            due("the mode before the first change", way.then(store -> store.undoTo(0, 1)).made().mode(0, 0), 0);
            due("a lock", way.made().mode(0, 2), 1);
            int[] totals = {1, 0, 4, 0, 0, 0, 2};
            for (int what = 0; what < totals.length; what++) {
                due("total(" + what + ")", way.made().total(what), totals[what]);
            }
            sameState("all of it", way, SCENE);
        }
    }

    private static void disturb(SavepointStore store) {
        store.keep(true);
        store.undoTo(0, 1);
        store.rollback(0);
        store.commit(1);
        store.begin(2);
        store.savepoint(2, 3);
        store.write(2, 0, 7);
        store.shift(2, 2, 1);
        store.begin(0);
        store.savepoint(0, 6);
        store.read(0, 0);
        store.commit(2);
        store.write(0, 0, 8);
        store.write(0, 3, 8);
        store.savepoint(0, 5);
        store.write(0, 0, 9);
    }

    /** "Each action that returns no error code records the state before it .., even if the action changes nothing." */
    void actionsAndHistoryRecordedWithoutAChange() {
        Run still = store -> {
            store.begin(0);
            store.write(0, 0, 5);
            store.savepoint(0, 0);
            store.save();
        };
        recorded("keep of the same setting", store -> store.keep(false), still);
        recorded("restore of the same state", SavepointStore::restore, still);
        recorded("read of its own key", store -> store.read(0, 0), still);
        recorded("write of the same value", store -> store.write(0, 0, 5), still);
        recorded("shift by 0", store -> store.shift(0, 1, 0), still);
        recorded("undoTo without a change", store -> store.undoTo(0, 0), still);
        recorded("perform of an order that is refused", store -> Checks.perform(store, "1c"), still);
        Run typed = still.then(store -> Scenes.type(store, "0b"));
        sameState("perform of an order that is refused", typed.then(SavepointStore::perform), typed);
    }

    /** "The history holds at most 5 states" */
    void actionsAndHistoryFiveStates() {
        for (int actions = 0; actions <= 12; actions++) {
            int count = actions;
            Run run = store -> {
                for (int i = 0; i < count; i++) {
                    Actions.KEEP.on(store);
                }
            };
            due("states behind " + actions + " actions", statesOf(run), Math.min(actions, 5));
        }
    }

    /** "when a sixth state is recorded, the oldest one is dropped" */
    void actionsAndHistoryOldestStateIsDropped() {
        for (int actions = 5; actions <= 17; actions++) {
            SavepointStore store = new SavepointStore();
            store.begin(0);
            for (int value = 1; value <= actions; value++) {
                store.write(0, 0, value);
            }
            for (int left = 4; left >= 0; left--) {
                due("undo", store.undo(), left);
                int value = actions - 5 + left;
                due("value(0) with " + left + " left", store.value(0), value == 0 ? NONE : value);
            }
            due("undo of none", store.undo(), NONE);
            due("the oldest state stays", store.value(0), actions == 5 ? NONE : actions - 5);
        }
    }

    /** "The text, the snapshot and the history itself are not part of the state." */
    void actionsAndHistoryNoPartOfTheState() {
        SavepointStore store = SCENE.made();
        due("a longer text", store.append(';'), 8);
        due("another snapshot", store.save(), 1);
        due("undo", store.undo(), 4);
        due("the text stays", store.fault(), 8);
        due("undo", store.undo(), 3);
        due("value(0)", store.value(0), 101);
        due("restore", store.restore(), 1);
        due("the snapshot was the later one", store.value(0), 102);
        due("the text stays", store.clearText(), 8);
        due("the history was not restored", store.undo(), 3);
        due("value(0)", store.value(0), 101);
        due("undo", store.undo(), 2);
        due("undo brings back no text", store.clearText(), 0);
    }

    // ---- "Errors"

    /** A call by its arguments. */
    private interface Method {
        int on(SavepointStore store, int[] arguments);
    }

    /** With this argument set to this value the call is refused with the code. */
    private record Flaw(int code, int argument, int value) { }

    /** The flaws stand in the order in which the document lists their codes. */
    private record Refusable(String name, Method method, int[] good, Flaw... flaws) {
        int[] arguments(int flawed) {
            int[] arguments = good.clone();
            for (int flaw = flaws.length - 1; flaw >= 0; flaw--) {
                if ((flawed >> flaw & 1) != 0) {
                    arguments[flaws[flaw].argument()] = flaws[flaw].value();
                }
            }
            return arguments;
        }
    }

    private static final Flaw SESSION = new Flaw(NO_SUCH, 0, 3);
    private static final Flaw KEY = new Flaw(NO_SUCH, 1, 16);
    private static final Flaw NAME = new Flaw(BAD_VALUE, 1, 8);
    private static final Flaw CLOSED = new Flaw(NOT_POSSIBLE, 0, 2);
    private static final Flaw NO_SAVEPOINT = new Flaw(NOT_POSSIBLE, 1, 0);

    /** In Scenes.FULL_SAVEPOINTS, where session 1 has one savepoint of the name 7, and session 2 is closed. */
    private static final Refusable[] REFUSABLES = {
        new Refusable("begin", (store, a) -> store.begin(a[0]), new int[] {2},
                SESSION, new Flaw(NOT_POSSIBLE, 0, 0)),
        new Refusable("commit", (store, a) -> store.commit(a[0]), new int[] {0}, SESSION, CLOSED),
        new Refusable("rollback", (store, a) -> store.rollback(a[0]), new int[] {0}, SESSION, CLOSED),
        new Refusable("savepoint", (store, a) -> store.savepoint(a[0], a[1]), new int[] {1, 0},
                SESSION, NAME, CLOSED, new Flaw(TOO_MANY, 0, 0)),
        new Refusable("undoTo", (store, a) -> store.undoTo(a[0], a[1]), new int[] {1, 7},
                SESSION, NAME, CLOSED, NO_SAVEPOINT),
        new Refusable("release", (store, a) -> store.release(a[0], a[1]), new int[] {1, 7},
                SESSION, NAME, CLOSED, NO_SAVEPOINT),
        new Refusable("read", (store, a) -> store.read(a[0], a[1]), new int[] {0, 0}, SESSION, KEY, CLOSED),
        new Refusable("write", (store, a) -> store.write(a[0], a[1], a[2]), new int[] {0, 0, 5},
                SESSION, KEY, new Flaw(BAD_VALUE, 2, 10000), CLOSED),
        new Refusable("erase", (store, a) -> store.erase(a[0], a[1]), new int[] {0, 0}, SESSION, KEY, CLOSED),
        new Refusable("shift", (store, a) -> store.shift(a[0], a[1], a[2]), new int[] {0, 1, 5},
                SESSION, new Flaw(BAD_VALUE, 1, 65536), new Flaw(BAD_VALUE, 2, -10000), CLOSED),
        new Refusable("move", (store, a) -> store.move(a[0], a[1], a[2], a[3]), new int[] {0, 0, 1, 5},
                SESSION, KEY, new Flaw(NO_SUCH, 2, -1), new Flaw(BAD_VALUE, 3, 0), new Flaw(BAD_VALUE, 2, 0), CLOSED),
        new Refusable("append", (store, a) -> store.append(a[0]), new int[] {';'}, new Flaw(BAD_VALUE, 0, 31)),
        new Refusable("value", (store, a) -> store.value(a[0]), new int[] {0}, new Flaw(NO_SUCH, 0, 16)),
        new Refusable("committed", (store, a) -> store.committed(a[0]), new int[] {0}, new Flaw(NO_SUCH, 0, 16)),
        new Refusable("mode", (store, a) -> store.mode(a[0], a[1]), new int[] {0, 0}, SESSION, KEY),
        new Refusable("busyFor", (store, a) -> store.busyFor(a[0], a[1]), new int[] {0, 1},
                new Flaw(NO_SUCH, 0, 16), new Flaw(BAD_VALUE, 1, 3)),
        new Refusable("session", (store, a) -> store.session(a[0], a[1]), new int[] {0, 4},
                SESSION, new Flaw(BAD_VALUE, 1, 5)),
        new Refusable("nameOf", (store, a) -> store.nameOf(a[0], a[1]), new int[] {0, 11},
                SESSION, new Flaw(NO_SUCH, 1, 12)),
        new Refusable("nearest", (store, a) -> store.nearest(a[0], a[1]), new int[] {0, 7}, SESSION, NAME),
        new Refusable("changedSince", (store, a) -> store.changedSince(a[0], a[1], true), new int[] {0, 11},
                SESSION, new Flaw(NO_SUCH, 1, 12)),
        new Refusable("ifUndone", (store, a) -> store.ifUndone(a[0], a[1], a[2]), new int[] {1, 7, 0},
                SESSION, new Flaw(NO_SUCH, 2, 16), NAME, CLOSED, NO_SAVEPOINT),
        new Refusable("total", (store, a) -> store.total(a[0]), new int[] {6}, new Flaw(NO_SUCH, 0, 7)),
    };

    /** "A method that returns an error code changes nothing." */
    void errorsChangeNothing() {
        for (Refusable refusable : REFUSABLES) {
            for (int flaw = 0; flaw < refusable.flaws().length; flaw++) {
                int[] arguments = refusable.arguments(1 << flaw);
                refused(refusable.name() + " of flaw " + flaw, refusable.flaws()[flaw].code(),
                        store -> refusable.method().on(store, arguments), Scenes.FULL_SAVEPOINTS);
            }
        }
        refused("append to 80", TOO_MANY, store -> store.append('0'), Scenes.FULL_TEXT);
        refused("perform of a cut text", -102, SavepointStore::perform,
                Scenes.MIXED.then(store -> Scenes.type(store, "0w")));
        refused("restore", NOT_POSSIBLE, SavepointStore::restore, Scenes.FULL_SAVEPOINTS);
    }

    /** "The error codes .. are listed in the order in which they are checked, and the first one .. is returned." */
    void errorsFirstThatApplies() {
        for (Refusable refusable : REFUSABLES) {
            for (int flawed = 0; flawed < 1 << refusable.flaws().length; flawed++) {
                int[] arguments = refusable.arguments(flawed);
                int answer = refusable.method().on(Scenes.FULL_SAVEPOINTS.made(), arguments);
                String call = refusable.name() + " of the flaws " + Integer.toBinaryString(flawed);
                if (flawed == 0) {
                    holds(call + " is not refused", answer >= 0 || answer == NONE);
                } else {
                    Flaw first = refusable.flaws()[Integer.numberOfTrailingZeros(flawed)];
                    due(call, answer, first.code());
                }
            }
        }
        due("append of a wrong character to 80", Scenes.FULL_TEXT.made().append(127), BAD_VALUE);
    }

    /** "NONE, BUSY and FAILED are not error codes.": what answers them is done and recorded, and scripts go on. */
    void errorsNoErrorCodes() {
        recorded("read of no value", store -> store.read(1, 9), SCENE);
        recorded("write to no value", store -> store.write(1, 9, 1), SCENE);
        recorded("erase of no value", store -> store.erase(1, 9), SCENE);
        recorded("read of a busy key", store -> store.read(1, 0), SCENE);
        recorded("shift of no value", store -> store.shift(1, 2, 1), SCENE);
        due("a script of answers NONE", Checks.perform(SCENE.made(), "1g9;1w9=1;1e8;1c"), 4);
        due("undo of nothing", new SavepointStore().undo(), NONE);
    }

    /** "The constants: `NO_SUCH = -1`: There is no such session, key, savepoint or total." and so on */
    void errorsConstants() {
        due("NO_SUCH: a session", SCENE.made().begin(-1), -1);
        due("NO_SUCH: a key", SCENE.made().value(16), -1);
        due("NO_SUCH: a savepoint", SCENE.made().nameOf(0, 2), -1);
        due("NO_SUCH: a total", SCENE.made().total(7), -1);
        due("BAD_VALUE: another argument", SCENE.made().savepoint(0, 8), -2);
        due("TOO_MANY: a savepoint", Scenes.FULL_SAVEPOINTS.made().savepoint(0, 0), -3);
        due("TOO_MANY: a character", Scenes.FULL_TEXT.made().append('0'), -3);
        due("NOT_POSSIBLE: in the present state", SCENE.made().begin(0), -4);
        due("NONE: no value", SCENE.made().value(15), -5);
        due("NONE: no result", SCENE.made().nearest(0, 0), -5);
        due("BUSY: a key was busy", SCENE.made().read(1, 0), -6);
        due("FAILED: because of a value", SCENE.made().shift(0, 1, 9999), -7);
    }

    /** "queries; they change nothing, and lock nothing" */
    void errorsQueriesChangeNothing() {
        for (int query = 0; query < Actions.QUERIES.length; query++) {
            holds("query " + query + " is answered", Actions.QUERIES[query].on(SCENE.made()) >= 0);
            changesNothing("query " + query, Actions.QUERIES[query], SCENE);
        }
        changesNothing("fault", SavepointStore::fault, SCENE);
        SavepointStore store = SCENE.made();
        for (int key = 0; key <= 15; key++) {
            store.value(key);
            store.committed(key);
            store.busyFor(key, 2);
            store.ifUndone(0, 1, key);
        }
        dueModes("no lock", store, 0, 0, 65535 & ~5);
        dueModes("no lock", store, 1, 0, 65535);
        dueModes("no lock", store, 2, 0, 65535);
    }
}
