/**
 * A small store with transactions: sessions, locks, statements that are undone alone when they
 * fail, savepoints, a history, a snapshot, and scripts that are read from a text.
 */
public final class SavepointStore {
    public static final int NO_SUCH = -1;
    public static final int BAD_VALUE = -2;
    public static final int TOO_MANY = -3;
    public static final int NOT_POSSIBLE = -4;
    public static final int NONE = -5;
    public static final int BUSY = -6;
    public static final int FAILED = -7;

    private static final int NO_ERROR = 0;

    private static final int SESSIONS = 3;
    private static final int KEYS = 16;
    private static final int ALL_KEYS = 65535;
    private static final int NAMES = 8;
    private static final int GREATEST_VALUE = 9999;
    private static final int SAVEPOINT_LIMIT = 12;
    private static final int TEXT_LIMIT = 80;
    private static final int HISTORY_LIMIT = 5;
    private static final int FIRST_CHARACTER = 32;
    private static final int LAST_CHARACTER = 126;
    private static final int NO_SCRIPT = -100;

    /** The beginning of a transaction, its savepoints, and the moment before a statement. */
    private static final int MOMENT_LIMIT = SAVEPOINT_LIMIT + 2;

    /** One more than the limit: an action's state before it waits here for the action's answer. */
    private static final int HISTORY_SLOTS = HISTORY_LIMIT + 1;

    private static final int SHARED = 1;
    private static final int EXCLUSIVE = 2;

    private static final int COMMITTED = 0;
    private static final int ROLLED_BACK = 1;
    private static final int STATEMENTS_DONE = 2;
    private static final int STATEMENTS_BUSY = 3;
    private static final int STATEMENTS_FAILED = 4;
    private static final int UNDONE_TO = 5;
    private static final int SAVEPOINTS_SET = 6;
    private static final int TOTALS = 7;

    private static final int IS_OPEN = 0;
    private static final int SAVEPOINT_COUNT = 1;
    private static final int CHANGED_COUNT = 2;
    private static final int SHARED_COUNT = 3;
    private static final int EXCLUSIVE_COUNT = 4;

    private final State now;
    private final State snapshot;
    private boolean hasSnapshot;
    private final State[] history;
    private int oldestSlot;
    private int historyLength;
    private final Script script;

    public SavepointStore() {
        now = new State();
        snapshot = new State();
        history = new State[HISTORY_SLOTS];
        for (int slot = 0; slot < HISTORY_SLOTS; slot++) {
            history[slot] = new State();
        }
        script = new Script();
    }

    // ---- the setting, transactions

    public int keep(boolean isKept) {
        rememberState();
        int previous = now.isKept ? 1 : 0;
        now.isKept = isKept;
        return recordUnlessError(previous);
    }

    public int begin(int session) {
        rememberState();
        return recordUnlessError(now.openTransaction(session));
    }

    public int commit(int session) {
        rememberState();
        return recordUnlessError(now.commitTransaction(session));
    }

    public int rollback(int session) {
        rememberState();
        return recordUnlessError(now.rollTransactionBack(session));
    }

    // ---- savepoints

    public int savepoint(int session, int name) {
        rememberState();
        return recordUnlessError(now.setSavepoint(session, name));
    }

    public int undoTo(int session, int name) {
        rememberState();
        return recordUnlessError(now.undoToName(session, name));
    }

    public int release(int session, int name) {
        rememberState();
        return recordUnlessError(now.releaseName(session, name));
    }

    // ---- statements

    public int read(int session, int key) {
        rememberState();
        return recordUnlessError(now.readKey(session, key));
    }

    public int write(int session, int key, int value) {
        rememberState();
        return recordUnlessError(now.writeKey(session, key, value));
    }

    public int erase(int session, int key) {
        rememberState();
        return recordUnlessError(now.eraseKey(session, key));
    }

    public int shift(int session, int keys, int delta) {
        rememberState();
        return recordUnlessError(now.shiftKeys(session, keys, delta));
    }

    public int move(int session, int from, int to, int amount) {
        rememberState();
        return recordUnlessError(now.moveAmount(session, from, to, amount));
    }

    // ---- text

    public int append(int character) {
        if (character < FIRST_CHARACTER || character > LAST_CHARACTER) {
            return BAD_VALUE;
        }
        return script.addCharacter((char) character);
    }

    public int clearText() {
        int previous = script.length;
        script.length = 0;
        return previous;
    }

    public int fault() {
        return script.firstFault();
    }

    public int perform() {
        int fault = script.firstFault();
        if (fault != NONE) {
            return NO_SCRIPT - fault;
        }
        rememberState();
        int performed = 0;
        for (int index = 0; index < script.length; index++) {
            if (script.startsOrder(index)) {
                int answer = performOrder(index);
                if (isError(answer) || answer == BUSY || answer == FAILED) {
                    break;
                }
                performed++;
            }
        }
        return recordUnlessError(performed);
    }

    // ---- history and snapshot

    public int undo() {
        if (historyLength <= 0) {
            return NONE;
        }
        historyLength--;
        now.copyFrom(history[slotBehindHistory()]);
        return historyLength;
    }

    public int save() {
        snapshot.copyFrom(now);
        hasSnapshot = true;
        return now.valueCount();
    }

    public int restore() {
        if (!hasSnapshot) {
            return NOT_POSSIBLE;
        }
        rememberState();
        now.copyFrom(snapshot);
        return recordUnlessError(now.valueCount());
    }

    // ---- queries; they change nothing, and lock nothing

    public int value(int key) {
        return isKey(key) ? now.values[key] : NO_SUCH;
    }

    public int committed(int key) {
        return isKey(key) ? now.committedValue(key) : NO_SUCH;
    }

    public int mode(int session, int key) {
        if (!isSession(session) || !isKey(key)) {
            return NO_SUCH;
        }
        return now.transactions[session].lockMode(key);
    }

    public int busyFor(int key, int mode) {
        if (!isKey(key)) {
            return NO_SUCH;
        }
        if (mode != SHARED && mode != EXCLUSIVE) {
            return BAD_VALUE;
        }
        int sessions = 0;
        for (int session = 0; session < SESSIONS; session++) {
            if (now.isBusy(session, key, mode)) {
                sessions |= 1 << session;
            }
        }
        return sessions;
    }

    public int session(int session, int what) {
        if (!isSession(session)) {
            return NO_SUCH;
        }
        Transaction transaction = now.transactions[session];
        switch (what) {
            case IS_OPEN:
                return transaction.isOpen() ? 1 : 0;
            case SAVEPOINT_COUNT:
                return transaction.savepointCount();
            case CHANGED_COUNT:
                return Integer.bitCount(transaction.keysChangedSince(0));
            case SHARED_COUNT:
                return transaction.lockCount(SHARED);
            case EXCLUSIVE_COUNT:
                return transaction.lockCount(EXCLUSIVE);
            default:
                return BAD_VALUE;
        }
    }

    public int nameOf(int session, int savepoint) {
        if (!now.hasSavepoint(session, savepoint)) {
            return NO_SUCH;
        }
        return now.transactions[session].names[savepoint];
    }

    public int nearest(int session, int name) {
        if (!isSession(session)) {
            return NO_SUCH;
        }
        if (!isName(name)) {
            return BAD_VALUE;
        }
        return now.transactions[session].nearestSavepoint(name);
    }

    public int changedSince(int session, int savepoint, boolean isLocks) {
        if (!now.hasSavepoint(session, savepoint)) {
            return NO_SUCH;
        }
        Transaction transaction = now.transactions[session];
        int moment = momentOf(savepoint);
        return isLocks ? transaction.locksChangedSince(moment) : transaction.keysChangedSince(moment);
    }

    public int ifUndone(int session, int name, int key) {
        if (!isKey(key)) {
            return NO_SUCH;
        }
        int savepoint = now.savepointOrError(session, name);
        if (savepoint < 0) {
            return savepoint;
        }
        return now.transactions[session].valueAt(momentOf(savepoint), key, now.values[key]);
    }

    public int total(int what) {
        return what >= 0 && what < TOTALS ? now.totals[what] : NO_SUCH;
    }

    public double mean() {
        int count = now.valueCount();
        return count > 0 ? (double) now.valueSum() / (double) count : 0.0;
    }

    // ---- the history's slots, a ring

    private int slotBehindHistory() {
        return (oldestSlot + historyLength) % HISTORY_SLOTS;
    }

    private void rememberState() {
        history[slotBehindHistory()].copyFrom(now);
    }

    /** Puts the remembered state into the history, unless the action's answer is an error code. */
    private int recordUnlessError(int answer) {
        if (isError(answer)) {
            return answer;
        }
        if (historyLength < HISTORY_LIMIT) {
            historyLength++;
        } else {
            oldestSlot = (oldestSlot + 1) % HISTORY_SLOTS;
        }
        return answer;
    }

    // ---- the orders of a script

    /** The text has to be a complete script, of which an order starts here. */
    private int performOrder(int start) {
        int session = script.characterAt(start) - '0';
        int operand = start + 2;
        switch (script.characterAt(start + 1)) {
            case 'b':
                return now.openTransaction(session);
            case 'c':
                return now.commitTransaction(session);
            case 'r':
                return now.rollTransactionBack(session);
            case 's':
                return now.setSavepoint(session, script.characterAt(operand) - 'a');
            case 'u':
                return now.undoToName(session, script.characterAt(operand) - 'a');
            case 'd':
                return now.releaseName(session, script.characterAt(operand) - 'a');
            case 'w':
                return now.writeKey(session, script.numberAt(operand),
                        script.numberAt(script.endOfNumber(operand) + 1));
            case 'e':
                return now.eraseKey(session, script.numberAt(operand));
            default:
                return now.readKey(session, script.numberAt(operand));
        }
    }

    // ---- what numbers mean

    private static boolean isError(int answer) {
        return answer < 0 && answer != NONE && answer != BUSY && answer != FAILED;
    }

    private static boolean isSession(int session) {
        return session >= 0 && session < SESSIONS;
    }

    private static boolean isKey(int key) {
        return key >= 0 && key < KEYS;
    }

    private static boolean isName(int name) {
        return name >= 0 && name < NAMES;
    }

    private static boolean isValue(int value) {
        return value >= 0 && value <= GREATEST_VALUE;
    }

    /** Moment 0 is the beginning of the transaction. */
    private static int momentOf(int savepoint) {
        return savepoint + 1;
    }

    /**
     * A session's transaction: its locks, its savepoints, and what is known of its changes since
     * some moments. Moment 0 is the beginning, moment n + 1 the savepoint n; a statement has a
     * moment behind them while it runs.
     */
    private static final class Transaction {
        /** 0 if the transaction is not open. */
        private int momentCount;

        /** Two bits for each key: its mode. */
        private int locks;

        /**
         * The locks at each moment. Only the session itself changes its modes, and they only grow
         * but for undoing; so a mode has changed since a moment just if it differs from the one
         * here, which then is the mode before the first change.
         */
        private final int[] locksAt = new int[MOMENT_LIMIT];

        private final int[] names = new int[SAVEPOINT_LIMIT];

        /**
         * The keys changed between a moment and the next one, and their values before the first
         * of these changes. A change stands in one row alone, so that undoing to a moment takes it
         * from what is known since all earlier moments as well.
         */
        private final int[] changedKeys = new int[MOMENT_LIMIT];
        private final int[] valuesBefore = new int[MOMENT_LIMIT * KEYS];

        private boolean isOpen() {
            return momentCount > 0;
        }

        private int savepointCount() {
            return Math.max(momentCount - 1, 0);
        }

        private void addMoment() {
            if (momentCount >= MOMENT_LIMIT) {
                return;
            }
            locksAt[momentCount] = locks;
            changedKeys[momentCount] = 0;
            momentCount++;
        }

        private void close() {
            momentCount = 0;
            locks = 0;
        }

        /** NONE if there is no savepoint of this name. */
        private int nearestSavepoint(int name) {
            for (int savepoint = savepointCount() - 1; savepoint >= 0; savepoint--) {
                if (names[savepoint] == name) {
                    return savepoint;
                }
            }
            return NONE;
        }

        private int lockMode(int key) {
            return locks >>> 2 * key & 3;
        }

        private void setLockMode(int key, int mode) {
            int shift = 2 * key;
            locks = (locks & ~(3 << shift)) | (mode << shift);
        }

        private int lockCount(int mode) {
            int count = 0;
            for (int key = 0; key < KEYS; key++) {
                if (lockMode(key) == mode) {
                    count++;
                }
            }
            return count;
        }

        private int locksChangedSince(int moment) {
            if (moment < 0 || moment >= momentCount) {
                return 0;
            }
            int differences = locksAt[moment] ^ locks;
            int keys = 0;
            for (int key = 0; key < KEYS; key++) {
                if ((differences >>> 2 * key & 3) != 0) {
                    keys |= 1 << key;
                }
            }
            return keys;
        }

        private void undoLocks(int moment) {
            if (moment >= 0 && moment < momentCount) {
                locks = locksAt[moment];
            }
        }

        private void noteChange(int key, int valueBefore) {
            int newest = momentCount - 1;
            if (newest >= 0) {
                noteChangeAt(newest, key, valueBefore);
            }
        }

        private void noteChangeAt(int moment, int key, int valueBefore) {
            int bit = 1 << key;
            if ((changedKeys[moment] & bit) == 0) {
                changedKeys[moment] |= bit;
                valuesBefore[moment * KEYS + key] = valueBefore;
            }
        }

        private int keysChangedSince(int moment) {
            int keys = 0;
            for (int row = Math.max(moment, 0); row < momentCount; row++) {
                keys |= changedKeys[row];
            }
            return keys;
        }

        /** The value before the first change since a moment; without a change the present value. */
        private int valueAt(int moment, int key, int present) {
            for (int row = Math.max(moment, 0); row < momentCount; row++) {
                if ((changedKeys[row] >> key & 1) != 0) {
                    return valuesBefore[row * KEYS + key];
                }
            }
            return present;
        }

        private void forgetChangesSince(int moment) {
            for (int row = Math.max(moment, 0); row < momentCount; row++) {
                changedKeys[row] = 0;
            }
        }

        /** The changes since the moments that go remain known since this moment. */
        private void dropMomentsAfter(int moment) {
            if (moment < 0) {
                return;
            }
            for (int row = moment + 1; row < momentCount; row++) {
                for (int key = 0; key < KEYS; key++) {
                    if ((changedKeys[row] >> key & 1) != 0) {
                        noteChangeAt(moment, key, valuesBefore[row * KEYS + key]);
                    }
                }
            }
            momentCount = Math.min(momentCount, moment + 1);
        }

        /** Rows behind the newest moment are not copied: addMoment makes them anew. */
        private void copyFrom(Transaction other) {
            int rows = other.momentCount;
            momentCount = rows;
            locks = other.locks;
            System.arraycopy(other.locksAt, 0, locksAt, 0, rows);
            System.arraycopy(other.names, 0, names, 0, SAVEPOINT_LIMIT);
            System.arraycopy(other.changedKeys, 0, changedKeys, 0, rows);
            System.arraycopy(other.valuesBefore, 0, valuesBefore, 0, rows * KEYS);
        }
    }

    /** All that the history and the snapshot hold; a key without a value holds NONE. */
    private static final class State {
        private boolean isKept;
        private final int[] values = new int[KEYS];
        private final Transaction[] transactions = new Transaction[SESSIONS];
        private final int[] totals = new int[TOTALS];

        private State() {
            for (int key = 0; key < KEYS; key++) {
                values[key] = NONE;
            }
            for (int session = 0; session < SESSIONS; session++) {
                transactions[session] = new Transaction();
            }
        }

        private void copyFrom(State other) {
            isKept = other.isKept;
            System.arraycopy(other.values, 0, values, 0, KEYS);
            for (int session = 0; session < SESSIONS; session++) {
                transactions[session].copyFrom(other.transactions[session]);
            }
            System.arraycopy(other.totals, 0, totals, 0, TOTALS);
        }

        private int valueCount() {
            int count = 0;
            for (int key = 0; key < KEYS; key++) {
                if (values[key] != NONE) {
                    count++;
                }
            }
            return count;
        }

        private int valueSum() {
            int sum = 0;
            for (int key = 0; key < KEYS; key++) {
                if (values[key] != NONE) {
                    sum += values[key];
                }
            }
            return sum;
        }

        /** At most one open transaction has changed a key, as changing needs the mode 2. */
        private int committedValue(int key) {
            int value = values[key];
            for (int session = 0; session < SESSIONS; session++) {
                value = transactions[session].valueAt(0, key, value);
            }
            return value;
        }

        private boolean hasSavepoint(int session, int savepoint) {
            return isSession(session) && savepoint >= 0
                    && savepoint < transactions[session].savepointCount();
        }

        private int openTransaction(int session) {
            if (!isSession(session)) {
                return NO_SUCH;
            }
            if (transactions[session].isOpen()) {
                return NOT_POSSIBLE;
            }
            transactions[session].addMoment();
            int open = 0;
            for (int other = 0; other < SESSIONS; other++) {
                if (transactions[other].isOpen()) {
                    open++;
                }
            }
            return open;
        }

        private int commitTransaction(int session) {
            int error = whyImpossible(session, true, true);
            if (error != NO_ERROR) {
                return error;
            }
            int changed = 0;
            for (int key = 0; key < KEYS; key++) {
                if (transactions[session].valueAt(0, key, values[key]) != values[key]) {
                    changed++;
                }
            }
            transactions[session].close();
            totals[COMMITTED]++;
            return changed;
        }

        private int rollTransactionBack(int session) {
            int error = whyImpossible(session, true, true);
            if (error != NO_ERROR) {
                return error;
            }
            int changed = undoToMoment(transactions[session], 0);
            transactions[session].close();
            totals[ROLLED_BACK]++;
            return changed;
        }

        private int setSavepoint(int session, int name) {
            int error = whyImpossible(session, true, isName(name));
            if (error != NO_ERROR) {
                return error;
            }
            Transaction transaction = transactions[session];
            int savepoint = transaction.savepointCount();
            if (savepoint >= SAVEPOINT_LIMIT) {
                return TOO_MANY;
            }
            transaction.names[savepoint] = name;
            transaction.addMoment();
            totals[SAVEPOINTS_SET]++;
            return savepoint;
        }

        private int undoToName(int session, int name) {
            int savepoint = savepointOrError(session, name);
            if (savepoint < 0) {
                return savepoint;
            }
            int moment = momentOf(savepoint);
            int changed = undoToMoment(transactions[session], moment);
            transactions[session].dropMomentsAfter(moment);
            totals[UNDONE_TO]++;
            return changed;
        }

        private int releaseName(int session, int name) {
            int savepoint = savepointOrError(session, name);
            if (savepoint < 0) {
                return savepoint;
            }
            Transaction transaction = transactions[session];
            int going = transaction.savepointCount() - savepoint;
            transaction.dropMomentsAfter(momentOf(savepoint) - 1);
            return going;
        }

        /** The nearest savepoint of a name, or the error code of undoTo and release. */
        private int savepointOrError(int session, int name) {
            int error = whyImpossible(session, true, isName(name));
            if (error != NO_ERROR) {
                return error;
            }
            int savepoint = transactions[session].nearestSavepoint(name);
            return savepoint < 0 ? NOT_POSSIBLE : savepoint;
        }

        private int readKey(int session, int key) {
            int error = whyImpossible(session, isKey(key), true);
            if (error != NO_ERROR) {
                return error;
            }
            transactions[session].addMoment();
            int answer = takeLock(session, key, SHARED) ? values[key] : BUSY;
            return endStatement(session, answer);
        }

        private int writeKey(int session, int key, int value) {
            int error = whyImpossible(session, isKey(key), isValue(value));
            if (error != NO_ERROR) {
                return error;
            }
            transactions[session].addMoment();
            return endStatement(session, replaceValue(session, key, value));
        }

        private int eraseKey(int session, int key) {
            int error = whyImpossible(session, isKey(key), true);
            if (error != NO_ERROR) {
                return error;
            }
            transactions[session].addMoment();
            return endStatement(session, replaceValue(session, key, NONE));
        }

        private int shiftKeys(int session, int keys, int delta) {
            boolean isInRange = keys >= 1 && keys <= ALL_KEYS
                    && delta >= -GREATEST_VALUE && delta <= GREATEST_VALUE;
            int error = whyImpossible(session, true, isInRange);
            if (error != NO_ERROR) {
                return error;
            }
            transactions[session].addMoment();
            int answer = Integer.bitCount(keys);
            for (int key = 0; key < KEYS && answer >= 0; key++) {
                if ((keys >> key & 1) != 0) {
                    int sum = addToValue(session, key, delta, NONE);
                    answer = sum < 0 ? sum : answer;
                }
            }
            return endStatement(session, answer);
        }

        private int moveAmount(int session, int from, int to, int amount) {
            boolean isInRange = amount >= 1 && amount <= GREATEST_VALUE && from != to;
            int error = whyImpossible(session, isKey(from) && isKey(to), isInRange);
            if (error != NO_ERROR) {
                return error;
            }
            transactions[session].addMoment();
            int answer = addToValue(session, from, -amount, NONE);
            if (answer >= 0) {
                answer = addToValue(session, to, amount, 0);
            }
            return endStatement(session, answer);
        }

        /** The error code of a call that needs an open transaction, in the order of the checks. */
        private int whyImpossible(int session, boolean areKeysKnown, boolean areOthersInRange) {
            if (!isSession(session) || !areKeysKnown) {
                return NO_SUCH;
            }
            if (!areOthersInRange) {
                return BAD_VALUE;
            }
            return transactions[session].isOpen() ? NO_ERROR : NOT_POSSIBLE;
        }

        /** The statement's moment is the newest one; it goes, undone to or not. */
        private int endStatement(int session, int answer) {
            Transaction transaction = transactions[session];
            int moment = transaction.momentCount - 1;
            if (answer == BUSY || answer == FAILED) {
                undoToMoment(transaction, moment);
                totals[answer == BUSY ? STATEMENTS_BUSY : STATEMENTS_FAILED]++;
            } else {
                totals[STATEMENTS_DONE]++;
            }
            transaction.dropMomentsAfter(moment - 1);
            return answer;
        }

        /** Returns the previous value or NONE, or BUSY. */
        private int replaceValue(int session, int key, int value) {
            if (!takeLock(session, key, EXCLUSIVE)) {
                return BUSY;
            }
            int previous = values[key];
            transactions[session].noteChange(key, previous);
            values[key] = value;
            return previous;
        }

        /** Returns the sum, or BUSY or FAILED; a key without a value fails if missing is NONE. */
        private int addToValue(int session, int key, int delta, int missing) {
            if (!takeLock(session, key, EXCLUSIVE)) {
                return BUSY;
            }
            int previous = values[key] == NONE ? missing : values[key];
            if (previous == NONE || !isValue(previous + delta)) {
                return FAILED;
            }
            transactions[session].noteChange(key, values[key]);
            values[key] = previous + delta;
            return values[key];
        }

        private boolean takeLock(int session, int key, int mode) {
            if (isBusy(session, key, mode)) {
                return false;
            }
            if (transactions[session].lockMode(key) < mode) {
                transactions[session].setLockMode(key, mode);
            }
            return true;
        }

        private boolean isBusy(int session, int key, int mode) {
            if (transactions[session].lockMode(key) >= mode) {
                return false;
            }
            int greatestBeside = mode == SHARED ? SHARED : 0;
            for (int other = 0; other < SESSIONS; other++) {
                if (other != session && transactions[other].lockMode(key) > greatestBeside) {
                    return true;
                }
            }
            return false;
        }

        /** The moments stay. Returns the number of keys that get another value. */
        private int undoToMoment(Transaction transaction, int moment) {
            int different = 0;
            for (int key = 0; key < KEYS; key++) {
                int before = transaction.valueAt(moment, key, values[key]);
                if (before != values[key]) {
                    different++;
                }
                values[key] = before;
            }
            transaction.forgetChangesSince(moment);
            if (!isKept) {
                transaction.undoLocks(moment);
            }
            return different;
        }
    }

    /** The text and how it is read as a script. */
    private static final class Script {
        // What the characters read so far end with, or what has to come next.
        private static final int NOTHING_FITS = -1;
        private static final int AT_ORDER = 0;
        private static final int AT_KIND = 1;
        private static final int AT_NAME = 2;
        private static final int AT_KEY = 3;
        private static final int KEY_ONE = 4;
        private static final int AT_WRITE_KEY = 5;
        private static final int WRITE_KEY_ONE = 6;
        private static final int AT_EQUALS = 7;
        private static final int AT_VALUE = 8;
        private static final int ONE_DIGIT = 9;
        private static final int TWO_DIGITS = 10;
        private static final int THREE_DIGITS = 11;
        private static final int ORDER_END = 12;

        private final char[] text = new char[TEXT_LIMIT];
        private int length;

        private int addCharacter(char character) {
            if (length >= TEXT_LIMIT) {
                return TOO_MANY;
            }
            text[length] = character;
            length++;
            return length;
        }

        private int firstFault() {
            int place = AT_ORDER;
            for (int index = 0; index < length; index++) {
                place = placeAfter(place, text[index]);
                if (place == NOTHING_FITS) {
                    return index;
                }
            }
            return canEndOrder(place) ? NONE : length;
        }

        private static boolean canEndOrder(int place) {
            return place == ORDER_END || place == KEY_ONE || place == ONE_DIGIT
                    || place == TWO_DIGITS || place == THREE_DIGITS;
        }

        private static int placeAfter(int place, char character) {
            if (character == ';') {
                return canEndOrder(place) ? AT_ORDER : NOTHING_FITS;
            }
            switch (place) {
                case AT_ORDER:
                    return isBetween('0', character, '2') ? AT_KIND : NOTHING_FITS;
                case AT_KIND:
                    return placeAfterKind(character);
                case AT_NAME:
                    return isBetween('a', character, 'h') ? ORDER_END : NOTHING_FITS;
                case AT_KEY:
                    return placeAfterKeyDigit(character, KEY_ONE, ORDER_END);
                case KEY_ONE:
                    return isBetween('0', character, '5') ? ORDER_END : NOTHING_FITS;
                case AT_WRITE_KEY:
                    return placeAfterKeyDigit(character, WRITE_KEY_ONE, AT_EQUALS);
                case WRITE_KEY_ONE:
                    if (isBetween('0', character, '5')) {
                        return AT_EQUALS;
                    }
                    return character == '=' ? AT_VALUE : NOTHING_FITS;
                case AT_EQUALS:
                    return character == '=' ? AT_VALUE : NOTHING_FITS;
                default:
                    return placeInValue(place, character);
            }
        }

        private static int placeAfterKind(char character) {
            switch (character) {
                case 'b':
                case 'c':
                case 'r':
                    return ORDER_END;
                case 's':
                case 'u':
                case 'd':
                    return AT_NAME;
                case 'w':
                    return AT_WRITE_KEY;
                case 'e':
                case 'g':
                    return AT_KEY;
                default:
                    return NOTHING_FITS;
            }
        }

        /** Only a 1 can be the first of two digits of a key. */
        private static int placeAfterKeyDigit(char character, int afterOne, int afterOther) {
            if (character == '1') {
                return afterOne;
            }
            return isBetween('0', character, '9') ? afterOther : NOTHING_FITS;
        }

        private static int placeInValue(int place, char character) {
            if (!isBetween('0', character, '9')) {
                return NOTHING_FITS;
            }
            switch (place) {
                case AT_VALUE:
                    return character == '0' ? ORDER_END : ONE_DIGIT;
                case ONE_DIGIT:
                    return TWO_DIGITS;
                case TWO_DIGITS:
                    return THREE_DIGITS;
                case THREE_DIGITS:
                    return ORDER_END;
                default:
                    return NOTHING_FITS;
            }
        }

        private static boolean isBetween(char first, char character, char last) {
            return character >= first && character <= last;
        }

        /** Behind the text stands a character of no script. */
        private char characterAt(int index) {
            return index >= 0 && index < length ? text[index] : ' ';
        }

        private boolean startsOrder(int index) {
            return index == 0 || characterAt(index - 1) == ';';
        }

        private int endOfNumber(int start) {
            int end = start;
            while (end < length && isBetween('0', characterAt(end), '9')) {
                end++;
            }
            return end;
        }

        private int numberAt(int start) {
            int number = 0;
            int end = endOfNumber(start);
            for (int index = start; index < end; index++) {
                number = 10 * number + characterAt(index) - '0';
            }
            return number;
        }
    }
}
