/** The sections "Store, sessions" and "Locks" of the document's terms, a sentence or a part of one each. */
public final class StoreTermsTest extends Cases {
    /** All sessions are open; key 0 has 10, key 15 has 15, the others have none, and no key is locked. */
    private static final Run TWO_VALUES = Scenes.ALL_OPEN.then(store -> {
        store.write(0, 0, 10);
        store.write(0, 15, 15);
        store.commit(0);
        store.begin(0);
    });

    public static void main(String[] args) throws ReflectiveOperationException {
        new StoreTermsTest().runAll("storeAndSessions", "locks");
    }

    // ---- "Store, sessions"

    /** "The store has 16 keys, 0 to 15." */
    void storeAndSessionsSixteenKeys() {
        SavepointStore store = Scenes.ALL_OPEN.made();
        for (int key = 0; key <= 15; key++) {
            due("write to " + key, store.write(key % 3, key, 100 + key), NONE);
        }
        for (int key = 0; key <= 15; key++) {
            due("value(" + key + ")", store.value(key), 100 + key);
            due("mode(" + key % 3 + ", " + key + ")", store.mode(key % 3, key), 2);
        }
        due("keys with a value", store.save(), 16);
        for (int key : NO_KEYS) {
            Call[] calls = {
                any -> any.read(0, key), any -> any.write(0, key, 1), any -> any.erase(0, key),
                any -> any.move(0, key, 0, 1), any -> any.move(0, 0, key, 1), any -> any.value(key),
                any -> any.committed(key), any -> any.mode(0, key), any -> any.busyFor(key, 1),
                any -> any.ifUndone(0, 2, key),
            };
            for (int call = 0; call < calls.length; call++) {
                due("call " + call + " of the key " + key, calls[call].on(Scenes.MIXED.made()), NO_SUCH);
            }
        }
    }

    /** "A key has a value from 0 to 9999, or no value (as at first)." */
    void storeAndSessionsValueOrNone() {
        for (int key = 0; key <= 15; key++) {
            SavepointStore store = Scenes.ALL_OPEN.made();
            due("at first", store.value(key), NONE);
            for (int value : new int[] {0, 1, 5000, 9998, 9999}) {
                store.write(1, key, value);
                due("value(" + key + ")", store.value(key), value);
            }
            due("one above by write", store.write(1, key, 10000), BAD_VALUE);
            due("one above by shift", store.shift(1, 1 << key, 1), FAILED);
            due("the greatest value stays", store.value(key), 9999);
            due("down to the least", store.shift(1, 1 << key, -9999), 1);
            due("one below by write", store.write(1, key, -1), BAD_VALUE);
            due("one below by shift", store.shift(1, 1 << key, -1), FAILED);
            due("one below by move", store.move(1, key, 15 - key, 1), FAILED);
            due("the least value stays", store.value(key), 0);
            due("erase", store.erase(1, key), 0);
            due("no value again", store.value(key), NONE);
        }
    }

    /** "There are 3 sessions, 0 to 2." */
    void storeAndSessionsThreeSessions() {
        SavepointStore store = new SavepointStore();
        for (int session = 0; session <= 2; session++) {
            due("begin(" + session + ")", store.begin(session), session + 1);
            due("savepoint", store.savepoint(session, 5 + session), 0);
            due("write", store.write(session, session, 5), NONE);
        }
        for (int session = 0; session <= 2; session++) {
            due("nameOf(" + session + ", 0)", store.nameOf(session, 0), 5 + session);
            dueModes("exclusive to " + session, store, session, 2, 1 << session);
        }
        for (int session : NO_SESSIONS) {
            Call[] calls = {
                any -> any.begin(session), any -> any.commit(session), any -> any.rollback(session),
                any -> any.savepoint(session, 0), any -> any.undoTo(session, 0), any -> any.release(session, 0),
                any -> any.read(session, 0), any -> any.write(session, 0, 0), any -> any.erase(session, 0),
                any -> any.shift(session, 1, 0), any -> any.move(session, 0, 1, 1), any -> any.mode(session, 0),
                any -> any.session(session, 0), any -> any.nameOf(session, 0), any -> any.nearest(session, 0),
                any -> any.changedSince(session, 0, true), any -> any.ifUndone(session, 0, 0),
            };
            for (int call = 0; call < calls.length; call++) {
                due("call " + call + " of the session " + session, calls[call].on(Scenes.ALL_MARKED.made()), NO_SUCH);
            }
        }
    }

    /** "A session has an open transaction or not (not at first)." */
    void storeAndSessionsOpenOrNot() {
        for (int session = 0; session <= 2; session++) {
            SavepointStore store = new SavepointStore();
            due("at first", store.session(session, 0), 0);
            due("write at first", store.write(session, 0, 1), NOT_POSSIBLE);
            store.begin(session);
            due("behind begin", store.session(session, 0), 1);
            due("begin once more", store.begin(session), NOT_POSSIBLE);
            store.commit(session);
            due("behind commit", store.session(session, 0), 0);
            store.begin(session);
            due("behind begin", store.session(session, 0), 1);
            store.rollback(session);
            due("behind rollback", store.session(session, 0), 0);
            due("write behind rollback", store.write(session, 0, 1), NOT_POSSIBLE);
        }
    }

    /** "Changes of values by an open transaction are in the store at once" */
    void storeAndSessionsChangesAtOnce() {
        for (int session = 0; session <= 2; session++) {
            SavepointStore store = TWO_VALUES.made();
            store.write(session, 1, 5);
            due("value(1) behind write", store.value(1), 5);
            dueDouble("mean behind write", store.mean(), 10.0);
            due("save behind write", store.save(), 3);
            store.erase(session, 1);
            due("value(1) behind erase", store.value(1), NONE);
            store.shift(session, 1, 7);
            due("value(0) behind shift", store.value(0), 17);
            store.move(session, 15, 14, 6);
            due("value(15) behind move", store.value(15), 9);
            due("value(14) behind move", store.value(14), 6);
            due("the session reads its own change", store.read(session, 14), 6);
            due("it is not committed", store.committed(14), NONE);
        }
    }

    /** "but locks keep other sessions from them" */
    void storeAndSessionsLocksKeepOthersFromChanges() {
        Call.OfSession[] changes = {
            (store, session) -> store.write(session, 0, 5), (store, session) -> store.erase(session, 0),
            (store, session) -> store.shift(session, 1, 1), (store, session) -> store.move(session, 0, 1, 1),
            (store, session) -> store.move(session, 15, 0, 1), (store, session) -> store.shift(session, 1, 0),
        };
        Call.OfSession[] tries = {
            (store, session) -> store.read(session, 0), (store, session) -> store.write(session, 0, 6),
            (store, session) -> store.erase(session, 0), (store, session) -> store.shift(session, 1, 1),
            (store, session) -> store.move(session, 0, 14, 1), (store, session) -> store.move(session, 15, 0, 1),
        };
        for (int change = 0; change < changes.length; change++) {
            for (int session = 0; session <= 2; session++) {
                int other = (session + 1) % 3;
                for (int attempt = 0; attempt < tries.length; attempt++) {
                    SavepointStore store = TWO_VALUES.made();
                    changes[change].on(store, session);
                    int value = store.value(0);
                    String call = "attempt " + attempt + " behind change " + change;
                    due(call, tries[attempt].on(store, other), BUSY);
                    due("value(0) behind " + call, store.value(0), value);
                    store.commit(session);
                    holds(call + " and commit is not busy", tries[attempt].on(store, other) != BUSY);
                }
            }
        }
    }

    // ---- "Locks"

    /** "Each session has a lock mode on each key: 0 (no lock), 1 (shared) or 2 (exclusive)." */
    void locksModeOfEachSessionOnEachKey() {
        SavepointStore store = Scenes.ALL_OPEN.made();
        int[] shared = new int[3];
        int[] exclusive = new int[3];
        for (int key = 0; key <= 15; key++) {
            if (key % 4 < 3) {
                store.erase(key % 4, key);
                exclusive[key % 4] |= 1 << key;
            } else {
                for (int session = 0; session <= key / 4 && session < 3; session++) {
                    store.read(session, key);
                    shared[session] |= 1 << key;
                }
            }
        }
        for (int session = 0; session <= 2; session++) {
            dueModes("no lock of " + session, store, session, 0, 65535 & ~shared[session] & ~exclusive[session]);
            dueModes("shared by " + session, store, session, 1, shared[session]);
            dueModes("exclusive to " + session, store, session, 2, exclusive[session]);
        }
    }

    /**
     * "At most one session has the mode 2 on a key, and then no other session has a mode above 0 on it."
     * and "A session without an open transaction has no locks.": behind all runs of four calls.
     */
    void locksWhateverIsCalled() {
        Call.OfSession[] calls = {
            (store, session) -> store.read(session, 7), (store, session) -> store.write(session, 7, 1),
            (store, session) -> store.savepoint(session, 0), (store, session) -> store.undoTo(session, 0),
            (store, session) -> store.commit(session), (store, session) -> store.begin(session),
        };
        int ways = 3 * calls.length;
        int broken = 0;
        for (int run = 0; run < ways * ways * ways * ways; run++) {
            SavepointStore store = Scenes.ALL_OPEN.made();
            for (int rest = run, step = 0; step < 4; step++, rest /= ways) {
                calls[rest % ways / 3].on(store, rest % 3);
                broken += areModesPossible(store, 7) ? 0 : 1;
            }
        }
        due("runs that break it", broken, 0);
    }

    private static boolean areModesPossible(SavepointStore store, int key) {
        int exclusive = 0;
        int locked = 0;
        for (int session = 0; session <= 2; session++) {
            int mode = store.mode(session, key);
            exclusive += mode == 2 ? 1 : 0;
            locked += mode > 0 ? 1 : 0;
            if (mode > 0 && store.session(session, 0) == 0) {
                return false;
            }
        }
        return exclusive == 0 || locked == 1;
    }

    /** "A session without an open transaction has no locks.": however it ended, and whatever KEEP is. */
    void locksOfAClosedSession() {
        Run[] ends = {
            store -> store.commit(0), store -> store.rollback(0), store -> Checks.perform(store, "0c"),
            store -> Checks.perform(store, "0r"), SavepointStore::restore,
        };
        for (int end = 0; end < ends.length; end++) {
            for (int keep = 0; keep <= 1; keep++) {
                SavepointStore store = new SavepointStore();
                store.save();
                store.begin(0);
                store.write(0, 0, 1);
                store.savepoint(0, 0);
                store.read(0, 15);
                store.keep(keep == 1);
                store.shift(0, 1 << 9, 1);
                ends[end].on(store);
                dueClosed(store, 0);
                for (int key = 0; key <= 15; key++) {
                    due("busyFor(" + key + ", 2) behind end " + end, store.busyFor(key, 2), 0);
                }
            }
        }
        SavepointStore store = new SavepointStore();
        due("read of a closed session", store.read(0, 0), NOT_POSSIBLE);
        dueClosed(store, 0);
    }

    /** "if the session has this mode or a greater one on the key, nothing changes" */
    void locksThisModeOrAGreaterOne() {
        Run shared = TWO_VALUES.then(store -> store.read(1, 15));
        Run beside = shared.then(store -> store.read(2, 15));
        Run exclusive = TWO_VALUES.then(store -> store.shift(1, 1 << 15, 0));
        for (Run scene : new Run[] {shared, beside, exclusive}) {
            due("read once more", scene.made().read(1, 15), 15);
            sameState("a read of a key that is locked", scene.then(store -> store.read(1, 15)), scene);
        }
        SavepointStore store = exclusive.made();
        store.savepoint(1, 0);
        store.write(1, 15, 5);
        store.read(1, 15);
        dueModes("exclusive", store, 1, 2, 1 << 15);
        due("locks since the savepoint", store.changedSince(1, 0, true), 0);
    }

    /** "if the mode is 1 and no other session has the mode 2 on the key .. the session gets the mode" */
    void locksSharedBesideShared() {
        SavepointStore store = TWO_VALUES.made();
        for (int session = 2; session >= 0; session--) {
            due("read by " + session, store.read(session, 0), 10);
            due("mode(" + session + ", 0)", store.mode(session, 0), 1);
        }
        due("total(2)", store.total(2), 5);
        due("the first one still shares it", store.mode(2, 0), 1);
    }

    /** "or the mode is 2 and no other session has a mode above 0 on it, the session gets the mode" */
    void locksExclusiveWithoutOthers() {
        for (int held = 0; held <= 1; held++) {
            SavepointStore store = TWO_VALUES.made();
            if (held == 1) {
                store.read(1, 0);
            }
            due("write from the mode " + held, store.write(1, 0, 11), 10);
            due("mode(1, 0)", store.mode(1, 0), 2);
            due("mode(1, 15)", store.mode(1, 15), 0);
            due("another key is free", store.write(0, 15, 1), 15);
        }
        SavepointStore store = TWO_VALUES.made();
        store.read(0, 0);
        store.read(1, 0);
        due("beside a shared one", store.write(1, 0, 11), BUSY);
        store.rollback(0);
        due("behind its end", store.write(1, 0, 11), 10);
    }

    /** "Otherwise the key is busy, and nothing changes." */
    void locksBusyKey() {
        Run shared = TWO_VALUES.then(store -> store.read(0, 0));
        Run both = shared.then(store -> store.read(1, 0));
        Run exclusive = TWO_VALUES.then(store -> store.write(0, 0, 11));
        undone("write beside shared", BUSY, store -> store.write(1, 0, 5), shared);
        undone("write of one of two that share", BUSY, store -> store.write(1, 0, 5), both);
        undone("write of a third one", BUSY, store -> store.write(2, 0, 5), both);
        undone("write beside exclusive", BUSY, store -> store.write(1, 0, 5), exclusive);
        undone("read beside exclusive", BUSY, store -> store.read(2, 0), exclusive);
        Run kept = exclusive.then(store -> store.keep(true));
        undone("read beside exclusive with KEEP 1", BUSY, store -> store.read(2, 0), kept);
        Run keptShared = both.then(store -> store.keep(true));
        undone("write beside shared with KEEP 1", BUSY, store -> store.write(1, 0, 5), keptShared);
    }
}
