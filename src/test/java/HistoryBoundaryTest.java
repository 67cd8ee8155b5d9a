/** The boundary cases of promises 18 to 20 and of the section "Actions and history". */
public final class HistoryBoundaryTest extends Cases {
    /** Sessions 0 and 1 are open and have changed the keys 0 and 1; behind more than five actions. */
    private static final Run OLD = store -> {
        store.begin(0);
        store.write(0, 0, 50);
        store.save();
        store.begin(1);
        store.write(1, 1, 51);
        store.savepoint(0, 1);
        store.write(0, 0, 60);
        Scenes.type(store, "2b;2g14");
    };

    public static void main(String[] args) throws ReflectiveOperationException {
        new HistoryBoundaryTest().runAll(18, 20);
    }

    /** So many actions, and as many states in the history. */
    private static Run actions(int count) {
        return store -> {
            for (int i = 0; i < count; i++) {
                store.keep(i % 2 == 0);
            }
        };
    }

    // ---- 18: undo

    /** "NONE if the history is empty" */
    void promise18EmptyHistory() {
        due("undo", new SavepointStore().undo(), NONE);
        changesNothing("undo of nothing", SavepointStore::undo, Scenes.NOTHING);
        Run emptied = Scenes.MIXED.then(Checks::emptyHistory);
        due("undo of a history that was emptied", emptied.made().undo(), NONE);
        changesNothing("undo of a history that was emptied", SavepointStore::undo, emptied);
    }

    /** "the number of states that are left in the history", from one state to five */
    void promise18FromOneToFiveStates() {
        for (int count = 1; count <= 5; count++) {
            SavepointStore store = actions(count).made();
            for (int left = count - 1; left >= 0; left--) {
                due("undo of " + count, store.undo(), left);
            }
            due("undo of nothing", store.undo(), NONE);
        }
    }

    /** "when a sixth state is recorded, the oldest one is dropped" */
    void promise18SixthState() {
        SavepointStore store = new SavepointStore();
        store.begin(0);
        for (int value = 1; value <= 5; value++) {
            store.write(0, 0, value);
        }
        for (int left = 4; left >= 0; left--) {
            due("undo", store.undo(), left);
            due("value(0)", store.value(0), left == 0 ? NONE : left);
            due("session(0, 0)", store.session(0, 0), 1);
        }
        due("the oldest one is gone", store.undo(), NONE);
        due("session(0, 0)", store.session(0, 0), 1);
    }

    /** Each kind of action records as the fifth and as the sixth; the oldest state goes, no other. */
    void promise18EachActionAsTheSixth() {
        for (int action = 0; action < Actions.ALL.length; action++) {
            Call call = Actions.ALL[action];
            String name = "action " + action;
            recorded(name, call, OLD);
            Run four = OLD.then(SavepointStore::undo);
            due("states before " + name, statesOf(four), 4);
            due("states behind " + name + " as the fifth", statesOf(four.then(call::on)), 5);
            Run six = OLD.then(call::on);
            due("states behind " + name + " as the sixth", statesOf(six), 5);
            Run oldest = six.then(Checks::emptyHistory);
            Run second = OLD.then(store -> {
                for (int i = 0; i < 4; i++) {
                    store.undo();
                }
            });
            sameState("the oldest state behind " + name, oldest, second);
        }
    }

    /** "Restores the latest state": also twelve savepoints with all that is known since each. */
    void promise18WholeState() {
        String script = "0sf;0w0=1;0sf;0w1=2;0sf;0w2=3;0sf;0w3=4;0sf;0w4=5;0sf;0w5=6;0sf;0w6=7;0sf;0w7=8";
        for (Run scene : new Run[] {Scenes.FULL_SAVEPOINTS, Scenes.MIXED}) {
            Run typed = scene.then(store -> Scenes.type(store, script));
            Run behind = typed.then(store -> {
                store.commit(0);
                store.begin(0);
                store.perform();
                store.shift(0, 255, 9);
                store.keep(true);
            });
            Run back = behind.then(Checks::emptyHistory);
            sameState("the state before five actions", back, scene);
            sameTotals("the totals before five actions", back, scene);
            Run again = behind.then(store -> store.rollback(0)).then(SavepointStore::undo);
            sameState("the state before rollback", again, behind);
        }
    }

    /** Far more than five actions, with undo between them: the states stay in their order. */
    void promise18ManyActions() {
        SavepointStore store = new SavepointStore();
        store.begin(0);
        for (int value = 0; value < 60; value++) {
            store.write(0, 0, value);
        }
        for (int round = 0; round < 30; round++) {
            due("undo", store.undo(), 4);
            due("undo", store.undo(), 3);
            due("value(0)", store.value(0), 57 + round);
            store.write(0, 0, 58 + round);
            store.write(0, 0, 59 + round);
            store.write(0, 0, 60 + round);
        }
        for (int left = 4; left >= 0; left--) {
            due("undo", store.undo(), left);
            due("value(0)", store.value(0), 84 + left);
        }
        due("undo of nothing", store.undo(), NONE);
    }

    /** "The text and the snapshot do not change." */
    void promise18TextAndSnapshotStay() {
        SavepointStore store = OLD.made();
        store.write(0, 0, 61);
        due("save", store.save(), 2);
        Scenes.type(store, Scenes.FULL_SCRIPT);
        due("undo", store.undo(), 4);
        due("value(0)", store.value(0), 60);
        due("the text", store.fault(), NONE);
        due("the snapshot", store.restore(), 2);
        due("value(0)", store.value(0), 61);
        due("the length", store.clearText(), 80);
        due("undo", store.undo(), 4);
        due("the cleared text stays", store.clearText(), 0);
    }

    /** A first snapshot is not taken back by undo. */
    void promise18FirstSnapshotStays() {
        SavepointStore store = new SavepointStore();
        store.begin(0);
        store.save();
        due("undo", store.undo(), 0);
        due("restore", store.restore(), 0);
        due("session(0, 0)", store.session(0, 0), 1);
    }

    /** undo is no action: it cannot be undone. */
    void promise18UndoIsNotRecorded() {
        SavepointStore store = OLD.made();
        due("undo", store.undo(), 4);
        due("undo", store.undo(), 3);
        due("value(1)", store.value(1), 51);
        due("undo", store.undo(), 2);
        due("value(1)", store.value(1), NONE);
    }

    /** "the numbers that total returns" are part of the state. */
    void promise18TotalsGoBack() {
        SavepointStore store = OLD.made();
        store.undoTo(0, 1);
        store.savepoint(0, 2);
        store.read(0, 1);
        store.shift(0, 1 << 9, 1);
        store.commit(0);
        int[] behind = {1, 0, 3, 1, 1, 1, 2};
        for (int what = 0; what < 7; what++) {
            due("total(" + what + ")", store.total(what), behind[what]);
        }
        Checks.emptyHistory(store);
        int[] before = {0, 0, 3, 0, 0, 0, 1};
        for (int what = 0; what < 7; what++) {
            due("total(" + what + ") behind undo", store.total(what), before[what]);
        }
    }

    /** A call that is refused records nothing, neither in an empty history nor in a full one. */
    void promise18RefusedCallsRecordNothing() {
        Call[] refused = {
            store -> store.begin(3), store -> store.begin(0), store -> store.commit(2),
            store -> store.rollback(2), store -> store.savepoint(0, 8), store -> store.undoTo(0, 0),
            store -> store.release(0, 0), store -> store.read(0, 16), store -> store.write(0, 0, 10000),
            store -> store.erase(2, 0), store -> store.shift(0, 0, 0), store -> store.move(0, 1, 1, 1),
            store -> store.append(31),
        };
        for (Call call : refused) {
            holds("the call is refused", call.on(OLD.made()) < 0);
            changesNothing("a refused call", call, OLD);
            changesNothing("a refused call", call, OLD.then(Checks::emptyHistory));
        }
        refused("perform", -101, SavepointStore::perform, OLD.then(store -> Scenes.type(store, "0")));
        refused("restore", NOT_POSSIBLE, SavepointStore::restore, Scenes.FULL_SAVEPOINTS);
    }

    /** append, clearText, fault, undo, save and the queries are no actions. */
    void promise18OtherCallsRecordNothing() {
        recordNothing("the query", Actions.QUERIES);
        recordNothing("the call", Actions.OTHERS);
    }

    private void recordNothing(String name, Call... calls) {
        for (int number = 0; number < calls.length; number++) {
            Call call = calls[number];
            due("states behind " + name + " " + number, statesOf(OLD.then(call::on)), 5);
            Run two = actions(2).then(call::on);
            due("states behind " + name + " " + number, statesOf(two), 2);
            Run back = OLD.then(call::on).then(SavepointStore::undo);
            due("value(0) behind undo", back.made().value(0), 50);
        }
    }

    // ---- 19: save

    /** "Returns the number of keys with a value.": none, one, all but one, all */
    void promise19EmptyAndFullStore() {
        due("of an empty store", new SavepointStore().save(), 0);
        due("of a full store", Scenes.FULL_STORE.made().save(), 16);
        for (int key = 0; key < 16; key += 15) {
            int only = key;
            Run one = Scenes.ALL_OPEN.then(store -> store.write(1, only, 0));
            due("of the value 0 at the key " + key, one.made().save(), 1);
            Run rest = Scenes.FULL_STORE.then(Scenes.ALL_OPEN).then(store -> store.erase(1, only));
            due("of all but the key " + key, rest.made().save(), 15);
        }
    }

    /** "This is not an action." */
    void promise19NoAction() {
        due("states of none", statesOf(SavepointStore::save), 0);
        due("states of five", statesOf(OLD.then(SavepointStore::save)), 5);
    }

    /** "which replaces the previous snapshot" */
    void promise19ReplacesTheSnapshot() {
        SavepointStore store = Scenes.ALL_OPEN.made();
        store.write(1, 0, 1);
        due("one", store.save(), 1);
        store.write(1, 1, 1);
        due("two", store.save(), 2);
        store.erase(1, 0);
        due("restore", store.restore(), 2);
        due("value(0)", store.value(0), 1);
        store.rollback(1);
        due("none", store.save(), 0);
        store.begin(1);
        due("restore", store.restore(), 0);
        due("session(1, 0)", store.session(1, 0), 0);
    }

    void promise19ChangesNothingElse() {
        Run saved = OLD.then(SavepointStore::save);
        sameState("the state", saved, OLD);
        sameTotals("the totals", saved, OLD);
    }

    // ---- 20: restore

    /** "NOT_POSSIBLE if there is no snapshot" */
    void promise20NoSnapshot() {
        refused("restore", NOT_POSSIBLE, SavepointStore::restore,
                Scenes.NOTHING, Scenes.ALL_OPEN, Scenes.FULL_STORE, Scenes.FULL_SAVEPOINTS);
    }

    /** "Returns the number of keys with a value" of the snapshot, not of the state before. */
    void promise20EmptyAndFullStore() {
        Run empty = store -> store.save();
        due("an empty store", empty.made().restore(), 0);
        due("an empty store behind a full one", empty.then(Scenes.FULL_STORE).made().restore(), 0);
        Run full = Scenes.FULL_STORE.then(SavepointStore::save);
        due("a full store", full.made().restore(), 16);
        due("a full store behind an erased one", full.then(store -> {
            store.begin(0);
            for (int key = 0; key < 16; key++) {
                store.erase(0, key);
            }
        }).made().restore(), 16);
    }

    /** "Restores the state of the snapshot": also twelve savepoints, KEEP and the totals. */
    void promise20WholeState() {
        for (Run scene : new Run[] {Scenes.NOTHING, Scenes.MIXED, Scenes.FULL_SAVEPOINTS, Scenes.FULL_STORE,
            Scenes.ALL_OPEN}) {
            Run restored = scene.then(SavepointStore::save).then(HistoryBoundaryTest::disturb)
                    .then(SavepointStore::restore);
            sameState("the state", restored, scene);
            sameTotals("the totals", restored, scene);
            Run twice = restored.then(HistoryBoundaryTest::disturb).then(SavepointStore::restore);
            sameState("the snapshot remains", twice, scene);
        }
    }

    /** Each session has other savepoints, other changes of every key and other values before them. */
    private static void disturb(SavepointStore store) {
        store.keep(store.keep(true) == 0);
        for (int session = 0; session < 3; session++) {
            store.rollback(session);
        }
        store.begin(0);
        for (int key = 0; key < 16; key++) {
            store.write(0, key, 1000 + key);
        }
        for (int session = 0; session < 3; session++) {
            store.begin(session);
            for (int savepoint = 0; savepoint < 12; savepoint++) {
                store.savepoint(session, 6);
                store.shift(session, 65535, 1 + session);
            }
            store.commit(session);
        }
        store.begin(2);
        store.erase(2, 0);
        store.undo();
    }

    /** "The text, the snapshot and the history itself are not part of the state." */
    void promise20TextAndHistoryStay() {
        SavepointStore store = OLD.made();
        store.write(0, 0, 61);
        Scenes.type(store, Scenes.FULL_SCRIPT);
        due("restore", store.restore(), 1);
        due("the text", store.fault(), NONE);
        due("the length", store.clearText(), 80);
        due("undo", store.undo(), 4);
        due("value(0)", store.value(0), 61);
        due("undo", store.undo(), 3);
        due("value(0)", store.value(0), 60);
    }

    /** An action, also if it changes nothing, and as the sixth. */
    void promise20IsRecorded() {
        recorded("restore without a change", SavepointStore::restore, store -> store.save());
        recorded("restore", SavepointStore::restore, OLD);
        recorded("restore", SavepointStore::restore, Scenes.MIXED);
    }
}
