/** The boundary cases of promises 9 to 13 and of the sections "Locks" and "Statements". */
public final class StatementsBoundaryTest extends Cases {
    private static final int[] NO_VALUES = {-1, 10000, 10001, 65536, MIN, MAX};
    private static final int[] NO_MASKS = {0, -1, 65536, 65537, 1 << 17, MIN, MIN + 1, MAX};
    private static final int[] NO_DELTAS = {-10000, 10000, -10001, 65536, MIN, MAX};
    private static final int[] NO_AMOUNTS = {0, -1, 10000, -9999, 65537, MIN, MAX};

    /**
     * All sessions are open, KEEP is 0. Session 0: key 0 has 0, key 1 has 9999, key 7 has 5000, key 15
     * has 1; it shares key 4, and key 5 with session 1. Session 1 holds key 8 with 8 alone. The keys 2,
     * 3, 6 and 9 to 14 are free and without a value.
     */
    private static final Run LOCKED = Scenes.ALL_OPEN.then(store -> {
        store.write(0, 0, 0);
        store.write(0, 1, 9999);
        store.write(0, 7, 5000);
        store.write(0, 15, 1);
        store.read(0, 4);
        store.read(0, 5);
        store.read(1, 5);
        store.write(1, 8, 8);
        store.savepoint(0, 0);
        Scenes.type(store, "0sa;1g8");
    });
    private static final Run CLOSED = LOCKED.then(store -> store.commit(0));

    public static void main(String[] args) throws ReflectiveOperationException {
        new StatementsBoundaryTest().runAll(9, 13);
    }

    // ---- 9: read

    void promise9NoSuchSession() {
        noSuchSession("read", SavepointStore::read);
    }

    void promise9NoSuchKey() {
        noSuchKey("read", SavepointStore::read);
    }

    void promise9NoOpenTransaction() {
        noOpenTransaction("read", SavepointStore::read);
    }

    void promise9FirstCodeOfTwo() {
        firstCodeOfTwo("read", SavepointStore::read);
    }

    void promise9LeastAndGreatestArguments() {
        for (int session = 0; session <= 2; session++) {
            for (int key = 0; key <= 15; key++) {
                SavepointStore store = Scenes.FULL_STORE.then(Scenes.ALL_OPEN).made();
                due("read(" + session + ", " + key + ")", store.read(session, key), 9999);
                for (int other = 0; other <= 2; other++) {
                    dueModes("shared by " + other, store, other, 1, other == session ? 1 << key : 0);
                }
            }
        }
    }

    /** "Returns the value of the key", "NONE if the key has no value" */
    void promise9LeastGreatestAndNoValue() {
        SavepointStore store = LOCKED.made();
        due("the least value", store.read(0, 0), 0);
        due("the greatest value", store.read(0, 1), 9999);
        due("no value", store.read(0, 2), NONE);
        due("mode(0, 2)", store.mode(0, 2), 1);
        due("keys that it has changed", store.session(0, 2), 4);
    }

    void promise9Busy() {
        undone("read(0, 8)", BUSY, store -> store.read(0, 8), LOCKED);
        undone("read(1, 0)", BUSY, store -> store.read(1, 0), LOCKED);
        undone("read(2, 15)", BUSY, store -> store.read(2, 15), LOCKED);
    }

    /** "if the session has this mode or a greater one on the key, nothing changes" */
    void promise9KeyThatIsLockedAlready() {
        SavepointStore store = LOCKED.made();
        due("its shared key", store.read(0, 4), NONE);
        due("mode(0, 4)", store.mode(0, 4), 1);
        due("its exclusive key", store.read(0, 15), 1);
        due("mode(0, 15)", store.mode(0, 15), 2);
        due("a key that two share", store.read(0, 5), NONE);
        due("mode(0, 5)", store.mode(0, 5), 1);
        due("mode(1, 5)", store.mode(1, 5), 1);
        due("locks since the savepoint", store.changedSince(0, 0, true), 0);
    }

    void promise9KeyThatAllShare() {
        SavepointStore store = LOCKED.made();
        due("the third reader", store.read(2, 5), NONE);
        due("mode(2, 5)", store.mode(2, 5), 1);
        due("busyFor(5, 2)", store.busyFor(5, 2), 7);
    }

    void promise9IsRecorded() {
        recorded("read(0, 0)", store -> store.read(0, 0), LOCKED);
        recorded("read(0, 0) of no value", store -> store.read(0, 0), store -> store.begin(0));
    }

    // ---- 10: write

    void promise10NoSuchSession() {
        for (int session : NO_SESSIONS) {
            refused("write(" + session + ", 0, 0)", NO_SUCH, store -> store.write(session, 0, 0),
                    Scenes.NOTHING, LOCKED);
        }
    }

    void promise10NoSuchKey() {
        for (int key : NO_KEYS) {
            refused("write(0, " + key + ", 0)", NO_SUCH, store -> store.write(0, key, 0), LOCKED, Scenes.MIXED);
        }
    }

    void promise10ValueOutOfRange() {
        for (int value : NO_VALUES) {
            refused("write(0, 0, " + value + ")", BAD_VALUE, store -> store.write(0, 0, value),
                    LOCKED, Scenes.MIXED);
            refused("write(0, 2, " + value + ")", BAD_VALUE, store -> store.write(0, 2, value), LOCKED);
        }
        refused("write(0, 0, NONE)", BAD_VALUE, store -> store.write(0, 0, NONE), LOCKED);
    }

    void promise10NoOpenTransaction() {
        refused("write(0, 0, 0)", NOT_POSSIBLE, store -> store.write(0, 0, 0), Scenes.NOTHING, CLOSED);
        refused("write(2, 15, 9999)", NOT_POSSIBLE, store -> store.write(2, 15, 9999),
                Scenes.NOTHING, Scenes.MIXED);
    }

    void promise10FirstCodeOfTwo() {
        for (int value : NO_VALUES) {
            refused("write(3, 0, " + value + ")", NO_SUCH, store -> store.write(3, 0, value), LOCKED);
            refused("write(0, 16, " + value + ")", NO_SUCH, store -> store.write(0, 16, value), LOCKED, CLOSED);
            refused("write(0, 0, " + value + ") of a closed session", BAD_VALUE,
                    store -> store.write(0, 0, value), Scenes.NOTHING, CLOSED);
            refused("write(0, 8, " + value + ") to a busy key", BAD_VALUE,
                    store -> store.write(0, 8, value), LOCKED);
        }
        refused("write(0, -1, 0) of a closed session", NO_SUCH, store -> store.write(0, -1, 0),
                Scenes.NOTHING, CLOSED);
        refused("write(0, 8, 0) of a closed session and a busy key", NOT_POSSIBLE,
                store -> store.write(0, 8, 0), CLOSED);
    }

    void promise10LeastAndGreatestArguments() {
        for (int session = 0; session <= 2; session++) {
            for (int key = 0; key <= 15; key++) {
                SavepointStore store = Scenes.ALL_OPEN.made();
                String call = "write(" + session + ", " + key + ", ";
                due(call + "0)", store.write(session, key, 0), NONE);
                due("value(" + key + ")", store.value(key), 0);
                due(call + "9999)", store.write(session, key, 9999), 0);
                due("value(" + key + ")", store.value(key), 9999);
                due(call + "0) again", store.write(session, key, 0), 9999);
                due("save", store.save(), 1);
                for (int other = 0; other <= 2; other++) {
                    dueModes("exclusive to " + other, store, other, 2, other == session ? 1 << key : 0);
                }
            }
        }
    }

    void promise10Busy() {
        undone("write(0, 8, 1), exclusive to another", BUSY, store -> store.write(0, 8, 1), LOCKED);
        undone("write(1, 4, 1), shared by another", BUSY, store -> store.write(1, 4, 1), LOCKED);
        undone("write(0, 5, 1), shared with another", BUSY, store -> store.write(0, 5, 1), LOCKED);
        undone("write(2, 15, 1)", BUSY, store -> store.write(2, 15, 1), LOCKED);
    }

    /** "or the mode is 2 and no other session has a mode above 0 on it" */
    void promise10RaisesItsOwnSharedLock() {
        SavepointStore store = LOCKED.made();
        due("write(0, 4, 1)", store.write(0, 4, 1), NONE);
        due("mode(0, 4)", store.mode(0, 4), 2);
        due("locks since the savepoint", store.changedSince(0, 0, true), 1 << 4);
        due("its exclusive key", store.write(0, 15, 2), 1);
        due("locks since the savepoint", store.changedSince(0, 0, true), 1 << 4);
        store.commit(1);
        due("write(0, 5, 1) behind the other's commit", store.write(0, 5, 1), NONE);
        due("mode(0, 5)", store.mode(0, 5), 2);
    }

    /** "(A key is changed .., also if it has the same value as before.)" */
    void promise10SameValueIsAChange() {
        SavepointStore store = LOCKED.made();
        due("write(0, 15, 1)", store.write(0, 15, 1), 1);
        due("changedSince", store.changedSince(0, 0, false), 1 << 15);
    }

    void promise10IsRecorded() {
        recorded("write(0, 0, 0)", store -> store.write(0, 0, 0), LOCKED);
        recorded("write(2, 2, 0)", store -> store.write(2, 2, 0), store -> store.begin(2));
    }

    // ---- 11: erase

    void promise11NoSuchSession() {
        noSuchSession("erase", SavepointStore::erase);
    }

    void promise11NoSuchKey() {
        noSuchKey("erase", SavepointStore::erase);
    }

    void promise11NoOpenTransaction() {
        noOpenTransaction("erase", SavepointStore::erase);
    }

    void promise11FirstCodeOfTwo() {
        firstCodeOfTwo("erase", SavepointStore::erase);
    }

    void promise11LeastAndGreatestArguments() {
        for (int session = 0; session <= 2; session++) {
            for (int key = 0; key <= 15; key++) {
                SavepointStore store = Scenes.FULL_STORE.then(Scenes.ALL_OPEN).made();
                String call = "erase(" + session + ", " + key + ")";
                due(call, store.erase(session, key), 9999);
                due("value(" + key + ")", store.value(key), NONE);
                due("save", store.save(), 15);
                due(call + " again", store.erase(session, key), NONE);
                due("save", store.save(), 15);
                for (int other = 0; other <= 2; other++) {
                    dueModes("exclusive to " + other, store, other, 2, other == session ? 1 << key : 0);
                }
            }
        }
    }

    /** "NONE if the key had no value"; erasing it is a change all the same. */
    void promise11LeastValueAndNoValue() {
        SavepointStore store = LOCKED.made();
        due("the least value", store.erase(0, 0), 0);
        due("no value", store.erase(0, 2), NONE);
        due("changedSince", store.changedSince(0, 0, false), 1 | 1 << 2);
        due("mode(0, 2)", store.mode(0, 2), 2);
    }

    void promise11Busy() {
        undone("erase(0, 8), exclusive to another", BUSY, store -> store.erase(0, 8), LOCKED);
        undone("erase(1, 4), shared by another", BUSY, store -> store.erase(1, 4), LOCKED);
        undone("erase(0, 5), shared with another", BUSY, store -> store.erase(0, 5), LOCKED);
        undone("erase(2, 15)", BUSY, store -> store.erase(2, 15), LOCKED);
    }

    void promise11IsRecordedEvenWithoutAValue() {
        recorded("erase(0, 0)", store -> store.erase(0, 0), LOCKED);
        recorded("erase(2, 2)", store -> store.erase(2, 2), store -> store.begin(2));
    }

    // ---- 12: shift

    void promise12NoSuchSession() {
        for (int session : NO_SESSIONS) {
            refused("shift(" + session + ", 1, 0)", NO_SUCH, store -> store.shift(session, 1, 0),
                    Scenes.NOTHING, LOCKED);
        }
    }

    void promise12KeysOutOfRange() {
        for (int keys : NO_MASKS) {
            refused("shift(0, " + keys + ", 0)", BAD_VALUE, store -> store.shift(0, keys, 0), LOCKED);
        }
    }

    void promise12DeltaOutOfRange() {
        for (int delta : NO_DELTAS) {
            refused("shift(0, 1, " + delta + ")", BAD_VALUE, store -> store.shift(0, 1, delta), LOCKED);
            refused("shift(0, 2, " + delta + ")", BAD_VALUE, store -> store.shift(0, 2, delta), LOCKED);
        }
    }

    void promise12NoOpenTransaction() {
        refused("shift(0, 1, 0)", NOT_POSSIBLE, store -> store.shift(0, 1, 0), Scenes.NOTHING, CLOSED);
        refused("shift(2, 65535, 9999)", NOT_POSSIBLE, store -> store.shift(2, 65535, 9999),
                Scenes.NOTHING, Scenes.MIXED);
        refused("shift(2, 1, -9999)", NOT_POSSIBLE, store -> store.shift(2, 1, -9999), Scenes.MIXED);
    }

    void promise12FirstCodeOfTwo() {
        for (int keys : NO_MASKS) {
            refused("shift(3, " + keys + ", 0)", NO_SUCH, store -> store.shift(3, keys, 0), LOCKED);
            refused("shift(0, " + keys + ", 0) of a closed session", BAD_VALUE,
                    store -> store.shift(0, keys, 0), Scenes.NOTHING, CLOSED);
        }
        for (int delta : NO_DELTAS) {
            refused("shift(-1, 1, " + delta + ")", NO_SUCH, store -> store.shift(-1, 1, delta), LOCKED);
            refused("shift(0, 1, " + delta + ") of a closed session", BAD_VALUE,
                    store -> store.shift(0, 1, delta), Scenes.NOTHING, CLOSED);
            refused("shift of a busy key by " + delta, BAD_VALUE,
                    store -> store.shift(0, 1 << 8, delta), LOCKED);
            refused("shift of a key without a value by " + delta, BAD_VALUE,
                    store -> store.shift(0, 1 << 2, delta), LOCKED);
        }
        refused("shift of a closed session and a busy key", NOT_POSSIBLE,
                store -> store.shift(0, 1 << 8, 1), CLOSED);
        refused("shift of a closed session and no value", NOT_POSSIBLE,
                store -> store.shift(0, 1 << 2, 1), CLOSED);
    }

    void promise12LeastAndGreatestKeys() {
        for (int key = 0; key <= 15; key++) {
            SavepointStore store = Scenes.FULL_STORE.then(Scenes.ALL_OPEN).made();
            due("shift of the key " + key, store.shift(2, 1 << key, -1), 1);
            for (int other = 0; other <= 15; other++) {
                due("value(" + other + ")", store.value(other), other == key ? 9998 : 9999);
            }
            dueModes("exclusive", store, 2, 2, 1 << key);
        }
        SavepointStore store = Scenes.FULL_STORE.then(Scenes.ALL_OPEN).made();
        due("shift of all keys", store.shift(0, 65535, -9999), 16);
        for (int key = 0; key <= 15; key++) {
            due("value(" + key + ")", store.value(key), 0);
        }
        due("shift of all but the least", store.shift(0, 65534, 9999), 15);
        due("shift of all but the greatest", store.shift(0, 32767, 0), 15);
        due("value(0)", store.value(0), 0);
        due("value(15)", store.value(15), 9999);
    }

    void promise12LeastAndGreatestDelta() {
        for (int session = 0; session <= 2; session++) {
            SavepointStore store = Scenes.FULL_STORE.then(Scenes.ALL_OPEN).made();
            due("by -9999", store.shift(session, 2, -9999), 1);
            due("value(1)", store.value(1), 0);
            due("by 9999", store.shift(session, 2, 9999), 1);
            due("value(1)", store.value(1), 9999);
            due("by 0", store.shift(session, 2, 0), 1);
            due("value(1)", store.value(1), 9999);
        }
    }

    /** "if a value would not be from 0 to 9999" */
    void promise12ValueOneBelowAndOneAbove() {
        undone("from 0 by -1", FAILED, store -> store.shift(0, 1, -1), LOCKED);
        undone("from 9999 by 1", FAILED, store -> store.shift(0, 2, 1), LOCKED);
        undone("from 5000 by -5001", FAILED, store -> store.shift(0, 1 << 7, -5001), LOCKED);
        undone("from 5000 by 5000", FAILED, store -> store.shift(0, 1 << 7, 5000), LOCKED);
        undone("from 0 by -9999", FAILED, store -> store.shift(0, 1, -9999), LOCKED);
        undone("from 9999 by 9999", FAILED, store -> store.shift(0, 2, 9999), LOCKED);
        SavepointStore store = LOCKED.made();
        due("from 5000 by -5000", store.shift(0, 1 << 7, -5000), 1);
        due("value(7)", store.value(7), 0);
        due("from 0 by 9999", store.shift(0, 1 << 7, 9999), 1);
        due("value(7)", store.value(7), 9999);
    }

    /** "each of them needs a value" */
    void promise12NoValue() {
        undone("no value by 0", FAILED, store -> store.shift(0, 1 << 2, 0), LOCKED);
        undone("no value by 5", FAILED, store -> store.shift(0, 1 << 2, 5), LOCKED);
        undone("no value by 9999", FAILED, store -> store.shift(0, 1 << 2, 9999), LOCKED);
        undone("no value at the last key", FAILED, store -> store.shift(0, 1 | 1 << 7 | 1 << 14, 1), LOCKED);
    }

    void promise12Busy() {
        undone("exclusive to another", BUSY, store -> store.shift(0, 1 << 8, 0), LOCKED);
        undone("shared by another", BUSY, store -> store.shift(1, 1 << 4, 1), LOCKED);
        undone("shared with another", BUSY, store -> store.shift(0, 1 << 5, 1), LOCKED);
        undone("busy behind a key that was changed", BUSY, store -> store.shift(0, 1 | 1 << 8, 1), LOCKED);
    }

    /** "from the lowest key to the highest"; the first key that is busy or fails ends it. */
    void promise12FromTheLowestKey() {
        undone("no value at 2, busy at 8", FAILED, store -> store.shift(0, 1 << 2 | 1 << 8, 1), LOCKED);
        undone("busy at 8, no value at 9", BUSY, store -> store.shift(0, 1 << 8 | 1 << 9, 1), LOCKED);
        undone("too great at 1, busy at 8", FAILED, store -> store.shift(0, 3 | 1 << 8, 1), LOCKED);
        undone("busy at 8, too small at 15", BUSY, store -> store.shift(0, 1 << 8 | 1 << 15, -2), LOCKED);
    }

    /** "so KEEP decides on the locks that the statement has taken" */
    void promise12LocksOfAnUndoneStatement() {
        for (int keep = 0; keep <= 1; keep++) {
            boolean isKept = keep == 1;
            SavepointStore store = LOCKED.made();
            store.keep(isKept);
            due("fails at 4", store.shift(0, 1 | 1 << 4 | 1 << 14, 1), FAILED);
            due("value(0)", store.value(0), 0);
            due("mode(0, 4)", store.mode(0, 4), isKept ? 2 : 1);
            due("mode(0, 14)", store.mode(0, 14), 0);
            due("locks since the savepoint", store.changedSince(0, 0, true), isKept ? 1 << 4 : 0);
            due("values since the savepoint", store.changedSince(0, 0, false), 0);
            due("busy at 5", store.shift(0, 1 | 1 << 5 | 1 << 7, 1), BUSY);
            due("mode(0, 5)", store.mode(0, 5), 1);
            due("keys that it has changed", store.session(0, 2), 4);
        }
    }

    void promise12ShiftBy0IsAChange() {
        SavepointStore store = LOCKED.made();
        due("shift(0, 1 and 15, 0)", store.shift(0, 1 | 1 << 15, 0), 2);
        due("changedSince", store.changedSince(0, 0, false), 1 | 1 << 15);
    }

    void promise12IsRecordedEvenWithoutAChange() {
        recorded("shift(0, 1, 0)", store -> store.shift(0, 1, 0), LOCKED);
        recorded("shift(0, 1, 0) that fails", store -> store.shift(0, 1, 0), store -> store.begin(0));
    }

    // ---- 13: move

    void promise13NoSuchSession() {
        for (int session : NO_SESSIONS) {
            refused("move(" + session + ", 1, 0, 1)", NO_SUCH, store -> store.move(session, 1, 0, 1),
                    Scenes.NOTHING, LOCKED);
        }
    }

    void promise13NoSuchKey() {
        for (int key : NO_KEYS) {
            refused("move(0, " + key + ", 0, 1)", NO_SUCH, store -> store.move(0, key, 0, 1), LOCKED);
            refused("move(0, 1, " + key + ", 1)", NO_SUCH, store -> store.move(0, 1, key, 1), LOCKED);
        }
    }

    void promise13AmountOutOfRange() {
        for (int amount : NO_AMOUNTS) {
            refused("move(0, 1, 0, " + amount + ")", BAD_VALUE, store -> store.move(0, 1, 0, amount), LOCKED);
        }
    }

    void promise13BothKeysTheSame() {
        for (int key = 0; key <= 15; key++) {
            int same = key;
            refused("move(0, " + key + ", " + key + ", 1)", BAD_VALUE,
                    store -> store.move(0, same, same, 1), LOCKED);
        }
    }

    void promise13NoOpenTransaction() {
        refused("move(0, 1, 0, 1)", NOT_POSSIBLE, store -> store.move(0, 1, 0, 1), Scenes.NOTHING, CLOSED);
        refused("move(2, 15, 0, 9999)", NOT_POSSIBLE, store -> store.move(2, 15, 0, 9999),
                Scenes.NOTHING, Scenes.MIXED);
    }

    void promise13FirstCodeOfTwo() {
        for (int amount : NO_AMOUNTS) {
            refused("move(3, 1, 0, " + amount + ")", NO_SUCH, store -> store.move(3, 1, 0, amount), LOCKED);
            refused("move(0, 16, 0, " + amount + ")", NO_SUCH, store -> store.move(0, 16, 0, amount), LOCKED);
            refused("move(0, 0, 16, " + amount + ")", NO_SUCH, store -> store.move(0, 0, 16, amount), LOCKED);
            refused("move(0, 1, 0, " + amount + ") of a closed session", BAD_VALUE,
                    store -> store.move(0, 1, 0, amount), Scenes.NOTHING, CLOSED);
            refused("move(0, 8, 0, " + amount + ") from a busy key", BAD_VALUE,
                    store -> store.move(0, 8, 0, amount), LOCKED);
        }
        for (int key : NO_KEYS) {
            refused("move(0, " + key + ", " + key + ", 1)", NO_SUCH, store -> store.move(0, key, key, 1), LOCKED);
            refused("move(0, " + key + ", 0, 1) of a closed session", NO_SUCH,
                    store -> store.move(0, key, 0, 1), Scenes.NOTHING, CLOSED);
            refused("move(0, 0, " + key + ", 1) of a closed session", NO_SUCH,
                    store -> store.move(0, 0, key, 1), Scenes.NOTHING, CLOSED);
        }
        refused("move(0, 5, 5, 1) of a closed session", BAD_VALUE, store -> store.move(0, 5, 5, 1),
                Scenes.NOTHING, CLOSED);
        refused("move(0, 8, 8, 1) in a busy key", BAD_VALUE, store -> store.move(0, 8, 8, 1), LOCKED);
        refused("move(0, 2, 2, 1) in a key without a value", BAD_VALUE,
                store -> store.move(0, 2, 2, 1), LOCKED);
        refused("move(0, 8, 0, 1) of a closed session and a busy key", NOT_POSSIBLE,
                store -> store.move(0, 8, 0, 1), CLOSED);
        refused("move(0, 2, 0, 1) of a closed session and no value", NOT_POSSIBLE,
                store -> store.move(0, 2, 0, 1), CLOSED);
    }

    void promise13LeastAndGreatestArguments() {
        for (int session = 0; session <= 2; session++) {
            SavepointStore store = Scenes.ALL_OPEN.made();
            store.write(session, 0, 9999);
            due("9999 from 0 to 15", store.move(session, 0, 15, 9999), 9999);
            due("value(0)", store.value(0), 0);
            due("value(15)", store.value(15), 9999);
            due("1 from 15 to 0", store.move(session, 15, 0, 1), 1);
            due("value(0)", store.value(0), 1);
            due("value(15)", store.value(15), 9998);
            due("the last one", store.move(session, 0, 15, 1), 9999);
            due("value(0)", store.value(0), 0);
        }
    }

    /** "if a value would not be from 0 to 9999" */
    void promise13ValueOneBelowAndOneAbove() {
        undone("1 from 0", FAILED, store -> store.move(0, 0, 2, 1), LOCKED);
        undone("2 from 1", FAILED, store -> store.move(0, 15, 0, 2), LOCKED);
        undone("9999 from 5000", FAILED, store -> store.move(0, 7, 2, 9999), LOCKED);
        undone("1 to 9999", FAILED, store -> store.move(0, 15, 1, 1), LOCKED);
        undone("5000 to 5000", FAILED, store -> store.move(0, 1, 7, 5000), LOCKED);
        SavepointStore store = LOCKED.made();
        due("4999 to 5000", store.move(0, 1, 7, 4999), 9999);
        due("value(1)", store.value(1), 5000);
        due("5000 from 5000", store.move(0, 1, 0, 5000), 5000);
        due("value(1)", store.value(1), 0);
    }

    /** "(which needs a value)" and "(which counts as 0 if it has none)" */
    void promise13NoValue() {
        undone("from a key without a value", FAILED, store -> store.move(0, 2, 0, 1), LOCKED);
        undone("between keys without a value", FAILED, store -> store.move(0, 2, 3, 1), LOCKED);
        SavepointStore store = LOCKED.made();
        due("the least amount to no value", store.move(0, 1, 2, 1), 1);
        due("the rest to no value", store.move(0, 1, 14, 9998), 9998);
        due("values since the savepoint", store.changedSince(0, 0, false), 2 | 1 << 2 | 1 << 14);
        due("undoTo", store.undoTo(0, 0), 3);
        due("value(2)", store.value(2), NONE);
    }

    void promise13Busy() {
        undone("from a busy key", BUSY, store -> store.move(0, 8, 0, 1), LOCKED);
        undone("to a busy key", BUSY, store -> store.move(0, 1, 8, 1), LOCKED);
        undone("to a key shared with another", BUSY, store -> store.move(0, 1, 5, 1), LOCKED);
        undone("from a key shared by another", BUSY, store -> store.move(1, 4, 8, 1), LOCKED);
    }

    /** "first it is taken from the value of the one key, then it is added to the value of the other one" */
    void promise13FirstFromThenTo() {
        undone("no value at 9, busy at 8", FAILED, store -> store.move(0, 9, 8, 1), LOCKED);
        undone("busy at 8, no value there", BUSY, store -> store.move(0, 8, 2, 1), LOCKED);
        undone("too little at 15, busy at 8", FAILED, store -> store.move(0, 15, 8, 2), LOCKED);
        undone("busy at 8, too much at 1", BUSY, store -> store.move(0, 8, 1, 1), LOCKED);
        undone("too little at 0, too much at 1", FAILED, store -> store.move(0, 0, 1, 1), LOCKED);
    }

    void promise13LocksOfAnUndoneStatement() {
        for (int keep = 0; keep <= 1; keep++) {
            boolean isKept = keep == 1;
            SavepointStore store = LOCKED.made();
            store.keep(isKept);
            due("no value at 14, then 13", store.move(0, 14, 13, 1), FAILED);
            due("mode(0, 14)", store.mode(0, 14), isKept ? 2 : 0);
            due("mode(0, 13)", store.mode(0, 13), 0);
            store.write(2, 12, 10);
            due("too much at 12 by another", store.move(0, 12, 4, 1), BUSY);
            due("mode(0, 4)", store.mode(0, 4), 1);
            due("from 12, busy at 14 if it was kept", store.move(2, 12, 14, 1), isKept ? BUSY : 1);
            due("value(12)", store.value(12), isKept ? 10 : 9);
        }
    }

    void promise13IsRecorded() {
        recorded("move(0, 1, 2, 1)", store -> store.move(0, 1, 2, 1), LOCKED);
        recorded("move(0, 1, 2, 1) that fails", store -> store.move(0, 1, 2, 1), store -> store.begin(0));
    }

    // ---- what read and erase share

    private void noSuchSession(String method, Call.OfTwo call) {
        for (int session : NO_SESSIONS) {
            refused(method + "(" + session + ", 0)", NO_SUCH, call.by(session, 0), Scenes.NOTHING, LOCKED);
        }
    }

    private void noSuchKey(String method, Call.OfTwo call) {
        for (int key : NO_KEYS) {
            refused(method + "(0, " + key + ")", NO_SUCH, call.by(0, key), LOCKED, Scenes.MIXED);
        }
    }

    private void noOpenTransaction(String method, Call.OfTwo call) {
        refused(method + "(0, 0)", NOT_POSSIBLE, call.by(0, 0), Scenes.NOTHING, CLOSED);
        refused(method + "(2, 15)", NOT_POSSIBLE, call.by(2, 15), Scenes.NOTHING, Scenes.MIXED);
    }

    private void firstCodeOfTwo(String method, Call.OfTwo call) {
        for (int key : NO_KEYS) {
            refused(method + "(0, " + key + ") of a closed session", NO_SUCH, call.by(0, key),
                    Scenes.NOTHING, CLOSED);
        }
        refused(method + "(0, 8) of a closed session and a busy key", NOT_POSSIBLE, call.by(0, 8), CLOSED);
    }

    // ---- "To lock a key with a mode": every state of the three sessions on a key

    void promise9And10LockTable() {
        for (int states = 0; states < 27; states++) {
            int[] modes = {states % 3, states / 3 % 3, states / 9};
            if (canBe(modes)) {
                lock(modes, 0, 1);
                lock(modes, 15, 2);
            }
        }
    }

    private static boolean canBe(int[] modes) {
        int exclusive = 0;
        int locked = 0;
        for (int mode : modes) {
            exclusive += mode == 2 ? 1 : 0;
            locked += mode > 0 ? 1 : 0;
        }
        return exclusive == 0 || locked == 1;
    }

    private void lock(int[] modes, int key, int wanted) {
        Run before = Scenes.ALL_OPEN.then(store -> {
            for (int session = 0; session < 3; session++) {
                take(store, session, key, modes[session]);
            }
        });
        for (int session = 0; session < 3; session++) {
            boolean isBusy = modes[session] < wanted;
            boolean isBeside = false;
            for (int other = 0; other < 3; other++) {
                isBeside |= other != session && modes[other] > (wanted == 1 ? 1 : 0);
            }
            isBusy &= isBeside;
            SavepointStore store = before.made();
            String call = "locking " + wanted + " by " + session + " of " + modes[0] + modes[1] + modes[2];
            due(call + " by busyFor", store.busyFor(key, wanted) >> session & 1, isBusy ? 1 : 0);
            due(call, take(store, session, key, wanted) == BUSY ? 1 : 0, isBusy ? 1 : 0);
            for (int other = 0; other < 3; other++) {
                int want = other == session && !isBusy ? Math.max(wanted, modes[other]) : modes[other];
                due("mode(" + other + ") behind " + call, store.mode(other, key), want);
            }
        }
    }

    private static int take(SavepointStore store, int session, int key, int mode) {
        if (mode == 0) {
            return NONE;
        }
        return mode == 1 ? store.read(session, key) : store.erase(session, key);
    }
}
