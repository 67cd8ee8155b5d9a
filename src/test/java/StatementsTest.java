/** Promises 9 to 13 and the sections "Locks" and "Statements". */
public final class StatementsTest {
    private final Checks checks = new Checks();
    private SavepointStore store;

    private StatementsTest() {
    }

    public static void main(String[] args) {
        StatementsTest test = new StatementsTest();
        test.promise9Read();
        test.promise10Write();
        test.promise11Erase();
        test.promise12Shift();
        test.promise12ShiftFails();
        test.promise12ShiftOrder();
        test.promise13Move();
        test.promise13MoveFails();
        test.errors();
        test.locks();
        test.undoneStatementAndItsLocks();
        test.busyAndFailedAreActions();
        test.checks.end();
    }

    private void due(String call, long got, long want) {
        checks.due(call, got, want);
    }

    private void open(int... sessions) {
        store = new SavepointStore();
        for (int session : sessions) {
            store.begin(session);
        }
    }

    private void promise9Read() {
        open(0, 1, 2);
        due("read of no value", store.read(0, 0), SavepointStore.NONE);
        due("mode(0, 0)", store.mode(0, 0), 1);
        due("shared beside shared", store.read(1, 0), SavepointStore.NONE);
        due("a read changes nothing", store.session(0, 2), 0);
        store.write(0, 15, 9999);
        due("its own exclusive key", store.read(0, 15), 9999);
        due("the mode stays", store.mode(0, 15), 2);
        due("another's exclusive key", store.read(1, 15), SavepointStore.BUSY);
        due("mode(1, 15)", store.mode(1, 15), 0);
        store.commit(0);
        due("read behind commit", store.read(1, 15), 9999);
        due("total(2)", store.total(2), 5);
        due("total(3)", store.total(3), 1);
    }

    private void promise10Write() {
        open(0, 1, 2);
        due("write", store.write(0, 3, 0), SavepointStore.NONE);
        due("mode(0, 3)", store.mode(0, 3), 2);
        due("value(3)", store.value(3), 0);
        due("write over 0", store.write(0, 3, 9999), 0);
        due("write over 9999", store.write(0, 3, 5), 9999);
        due("another's write", store.write(1, 3, 6), SavepointStore.BUSY);
        due("value(3)", store.value(3), 5);
        store.savepoint(0, 0);
        due("the same value", store.write(0, 3, 5), 5);
        due("it is a change all the same", store.changedSince(0, 0, false), 8);
        store.read(0, 4);
        due("raising its own lock", store.write(0, 4, 1), SavepointStore.NONE);
        due("mode(0, 4)", store.mode(0, 4), 2);
        store.read(0, 5);
        store.read(1, 5);
        due("raising a lock beside another", store.write(0, 5, 1), SavepointStore.BUSY);
        due("mode(0, 5)", store.mode(0, 5), 1);
        due("write(0, 0, -1)", store.write(0, 0, -1), SavepointStore.BAD_VALUE);
        due("write(0, 0, 10000)", store.write(0, 0, 10000), SavepointStore.BAD_VALUE);
        due("write(0, 0, MIN)", store.write(0, 0, Integer.MIN_VALUE), SavepointStore.BAD_VALUE);
        due("mode(0, 0)", store.mode(0, 0), 0);
    }

    private void promise11Erase() {
        open(0, 1);
        store.write(0, 2, 77);
        store.savepoint(0, 0);
        due("erase", store.erase(0, 2), 77);
        due("value(2)", store.value(2), SavepointStore.NONE);
        due("erase again", store.erase(0, 2), SavepointStore.NONE);
        due("erase of no value", store.erase(0, 9), SavepointStore.NONE);
        due("both are changes", store.changedSince(0, 0, false), 1 << 2 | 1 << 9);
        due("mode(0, 9)", store.mode(0, 9), 2);
        due("another's erase", store.erase(1, 2), SavepointStore.BUSY);
        due("total(2)", store.total(2), 4);
        due("undoTo", store.undoTo(0, 0), 1);
        due("value(2)", store.value(2), 77);
    }

    private void promise12Shift() {
        open(0);
        store.write(0, 0, 0);
        store.write(0, 7, 100);
        store.write(0, 15, 9000);
        due("shift", store.shift(0, 1 | 1 << 7 | 1 << 15, 999), 3);
        due("value(0)", store.value(0), 999);
        due("value(7)", store.value(7), 1099);
        due("value(15)", store.value(15), 9999);
        due("shift down", store.shift(0, 1 << 15, -9999), 1);
        due("value(15)", store.value(15), 0);
        store.savepoint(0, 0);
        due("shift by 0", store.shift(0, 1, 0), 1);
        due("it is a change", store.changedSince(0, 0, false), 1);
        due("shift up", store.shift(0, 1 << 15, 9999), 1);
        due("value(15)", store.value(15), 9999);
        for (int key = 0; key < 16; key++) {
            store.write(0, key, key);
        }
        due("shift of all", store.shift(0, 65535, 5), 16);
        due("value(9)", store.value(9), 14);
    }

    private void promise12ShiftFails() {
        open(0);
        store.write(0, 0, 10);
        store.write(0, 1, 9990);
        store.write(0, 3, 5);
        due("above 9999", store.shift(0, 3, 10), SavepointStore.FAILED);
        due("the first key is undone", store.value(0), 10);
        due("below 0", store.shift(0, 9, -6), SavepointStore.FAILED);
        due("the first key is undone", store.value(0), 10);
        due("no value", store.shift(0, 5, 1), SavepointStore.FAILED);
        due("the first key is undone", store.value(0), 10);
        due("the lock is given back", store.mode(0, 2), 0);
        due("a failing first key", store.shift(0, 1 << 2, 1), SavepointStore.FAILED);
        due("no value by 9999", store.shift(0, 1 << 2, 9999), SavepointStore.FAILED);
        due("up to 9999", store.shift(0, 3, 9), 2);
        due("total(2)", store.total(2), 4);
        due("total(4)", store.total(4), 5);
        due("changes stay known", store.session(0, 2), 3);
        due("rollback", store.rollback(0), 3);
    }

    /** The lower key decides whether the statement is busy or fails. */
    private void promise12ShiftOrder() {
        open(0, 1);
        store.write(1, 4, 1);
        due("first no value, then busy", store.shift(0, 1 << 3 | 1 << 4, 1), SavepointStore.FAILED);
        due("first busy, then no value", store.shift(0, 1 << 4 | 1 << 5, 1), SavepointStore.BUSY);
        store.write(0, 3, 8);
        due("first done, then busy", store.shift(0, 1 << 3 | 1 << 4, 1), SavepointStore.BUSY);
        due("value(3)", store.value(3), 8);
        due("total(3)", store.total(3), 2);
        due("total(4)", store.total(4), 1);
    }

    private void promise13Move() {
        open(0);
        store.write(0, 1, 100);
        due("to a key without a value", store.move(0, 1, 0, 40), 40);
        due("value(1)", store.value(1), 60);
        due("back", store.move(0, 0, 1, 40), 100);
        due("value(0)", store.value(0), 0);
        due("all of it", store.move(0, 1, 15, 100), 100);
        due("value(1)", store.value(1), 0);
        store.write(0, 1, 9999);
        store.write(0, 2, 0);
        due("the greatest amount", store.move(0, 1, 2, 9999), 9999);
        due("value(1)", store.value(1), 0);
        due("mode(0, 15)", store.mode(0, 15), 2);
    }

    private void promise13MoveFails() {
        open(0, 1);
        due("from no value", store.move(0, 1, 2, 1), SavepointStore.FAILED);
        store.write(0, 1, 5);
        due("too little", store.move(0, 1, 2, 6), SavepointStore.FAILED);
        due("value(1)", store.value(1), 5);
        store.write(0, 3, 9995);
        due("too much there", store.move(0, 1, 3, 5), SavepointStore.FAILED);
        due("value(1)", store.value(1), 5);
        due("value(3)", store.value(3), 9995);
        due("just fits", store.move(0, 1, 3, 4), 9999);
        store.read(1, 9);
        due("to a busy key", store.move(0, 1, 9, 1), SavepointStore.BUSY);
        due("value(1)", store.value(1), 1);
        due("from a busy key", store.move(1, 1, 8, 1), SavepointStore.BUSY);
        due("first fails, then busy", store.move(0, 2, 9, 1), SavepointStore.FAILED);
        due("first busy, then fails", store.move(0, 9, 2, 1), SavepointStore.BUSY);
        due("total(3)", store.total(3), 3);
        due("total(4)", store.total(4), 4);
    }

    private void errors() {
        store = new SavepointStore();
        int[] wrongSessions = {-1, 3, Integer.MIN_VALUE, Integer.MAX_VALUE};
        for (int s : wrongSessions) {
            due("read(" + s + ")", store.read(s, 0), SavepointStore.NO_SUCH);
            due("write(" + s + ")", store.write(s, 0, -1), SavepointStore.NO_SUCH);
            due("erase(" + s + ")", store.erase(s, 0), SavepointStore.NO_SUCH);
            due("shift(" + s + ")", store.shift(s, 0, 0), SavepointStore.NO_SUCH);
            due("move(" + s + ")", store.move(s, 0, 0, 0), SavepointStore.NO_SUCH);
        }
        int[] wrongKeys = {-1, 16, Integer.MIN_VALUE, Integer.MAX_VALUE};
        for (int key : wrongKeys) {
            due("read(" + key + ")", store.read(0, key), SavepointStore.NO_SUCH);
            due("write(" + key + ")", store.write(0, key, -1), SavepointStore.NO_SUCH);
            due("erase(" + key + ")", store.erase(0, key), SavepointStore.NO_SUCH);
            due("move from " + key, store.move(0, key, 1, 0), SavepointStore.NO_SUCH);
            due("move to " + key, store.move(0, 1, key, 0), SavepointStore.NO_SUCH);
            due("move in " + key, store.move(0, key, key, 1), SavepointStore.NO_SUCH);
        }
        due("write of -1", store.write(0, 0, -1), SavepointStore.BAD_VALUE);
        due("write of 10000", store.write(0, 0, 10000), SavepointStore.BAD_VALUE);
        int[] wrongMasks = {0, -1, 65536, 65537, Integer.MIN_VALUE, Integer.MAX_VALUE};
        for (int mask : wrongMasks) {
            due("shift of " + mask, store.shift(0, mask, 0), SavepointStore.BAD_VALUE);
        }
        int[] wrongDeltas = {-10000, 10000, Integer.MIN_VALUE, Integer.MAX_VALUE};
        for (int delta : wrongDeltas) {
            due("shift by " + delta, store.shift(0, 1, delta), SavepointStore.BAD_VALUE);
        }
        int[] wrongAmounts = {0, -1, 10000, Integer.MIN_VALUE, Integer.MAX_VALUE};
        for (int amount : wrongAmounts) {
            due("move of " + amount, store.move(0, 0, 1, amount), SavepointStore.BAD_VALUE);
        }
        due("move in one key", store.move(0, 5, 5, 1), SavepointStore.BAD_VALUE);
        due("read", store.read(0, 15), SavepointStore.NOT_POSSIBLE);
        due("write", store.write(0, 15, 9999), SavepointStore.NOT_POSSIBLE);
        due("erase", store.erase(0, 15), SavepointStore.NOT_POSSIBLE);
        due("shift", store.shift(0, 65535, -9999), SavepointStore.NOT_POSSIBLE);
        due("move", store.move(0, 0, 15, 9999), SavepointStore.NOT_POSSIBLE);
        due("errors are no actions", store.undo(), SavepointStore.NONE);
        due("total(2)", store.total(2) + store.total(3) + store.total(4), 0);
    }

    /** For each pair of modes of two sessions on a key: what the second one may get. */
    private void locks() {
        for (int held = 0; held <= 2; held++) {
            for (int wanted = 1; wanted <= 2; wanted++) {
                for (int key = 0; key < 16; key += 5) {
                    open(0, 1);
                    lock(0, key, held);
                    boolean isBusy = held == 2 || held == 1 && wanted == 2;
                    due("busyFor", store.busyFor(key, wanted) & 2, isBusy ? 2 : 0);
                    int answer = lock(1, key, wanted);
                    due("locking " + wanted + " beside " + held,
                            answer == SavepointStore.BUSY ? 1 : 0, isBusy ? 1 : 0);
                    due("the mode then", store.mode(1, key), isBusy ? 0 : wanted);
                    due("the other's mode", store.mode(0, key), held);
                }
            }
        }
    }

    private int lock(int session, int key, int mode) {
        if (mode == 0) {
            return 0;
        }
        return mode == 1 ? store.read(session, key) : store.write(session, key, 1);
    }

    private void undoneStatementAndItsLocks() {
        for (int keep = 0; keep <= 1; keep++) {
            open(0, 1);
            store.keep(keep == 1);
            store.write(0, 1, 10);
            store.read(0, 2);
            store.write(1, 9, 1);
            store.savepoint(0, 0);
            due("fails at 2", store.shift(0, 1 << 1 | 1 << 2, 1), SavepointStore.FAILED);
            due("mode(0, 2)", store.mode(0, 2), keep == 1 ? 2 : 1);
            due("busy at 9", store.move(0, 1, 9, 3), SavepointStore.BUSY);
            due("value(1)", store.value(1), 10);
            due("mode(0, 9)", store.mode(0, 9), 0);
            due("fails at 4", store.shift(0, 1 << 1 | 1 << 4, 1), SavepointStore.FAILED);
            due("value(1)", store.value(1), 10);
            due("mode(0, 4)", store.mode(0, 4), keep == 1 ? 2 : 0);
            due("known values", store.changedSince(0, 0, false), 0);
            due("known locks", store.changedSince(0, 0, true), keep == 1 ? 1 << 2 | 1 << 4 : 0);
            due("the savepoint stays", store.session(0, 1), 1);
            store.keep(false);
            store.undoTo(0, 0);
            due("mode(0, 2) behind undoTo", store.mode(0, 2), 1);
            due("mode(0, 4) behind undoTo", store.mode(0, 4), 0);
            due("mode(0, 1) behind undoTo", store.mode(0, 1), 2);
        }
    }

    private void busyAndFailedAreActions() {
        open(0, 1);
        store.write(0, 0, 1);
        due("read", store.read(1, 0), SavepointStore.BUSY);
        due("shift", store.shift(1, 2, 1), SavepointStore.FAILED);
        due("total(4)", store.total(4), 1);
        due("undo", store.undo(), 4);
        due("total(4)", store.total(4), 0);
        due("undo", store.undo(), 3);
        due("total(3)", store.total(3), 0);
    }
}
