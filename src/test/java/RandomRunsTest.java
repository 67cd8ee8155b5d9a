import java.util.ArrayDeque;
import java.util.Deque;

/**
 * Long runs of calls, made up from a fixed row of numbers, on the class and on the model: each
 * answer and, behind each call, all that the queries tell has to be the same.
 */
public final class RandomRunsTest {
    private static final int RUNS = 1500;
    private static final int CALLS = 512;
    private static final int SHOWN_CALLS = 60;
    private static final int[] ODD = {-1, 3, 7, 8, 12, 16, 65536, 10000, -10000,
        Integer.MIN_VALUE, Integer.MAX_VALUE, 32, 33};

    private long seed;
    private SavepointStore store = new SavepointStore();
    private ReferenceModel model = new ReferenceModel();
    private int keys = 16;
    private int sessions = 3;
    private int names = 8;
    private String typing = "";
    private final Deque<String> calls = new ArrayDeque<>();

    private RandomRunsTest(long seed) {
        this.seed = seed * 0x9E3779B97F4A7C15L + 1;
    }

    public static void main(String[] args) {
        for (int run = 0; run < RUNS; run++) {
            new RandomRunsTest(run).run(run);
        }
        System.out.println(RUNS + " runs of " + CALLS + " calls");
    }

    private void run(int number) {
        keys = new int[] {2, 3, 5, 16}[below(4)];
        sessions = 1 + below(3);
        names = new int[] {1, 2, 3, 8}[below(4)];
        for (int i = 0; i < CALLS; i++) {
            long[] answers = call();
            if (answers[0] != answers[1]) {
                fail(number, calls.peekLast() + " answered " + answers[0] + ", due is " + answers[1]);
            }
            compareQueries(number);
        }
    }

    private void fail(int run, String message) {
        System.out.println("run " + run + ", the last calls:");
        for (String call : calls) {
            System.out.println("  " + call);
        }
        System.out.println(message);
        System.exit(1);
    }

    private int below(int bound) {
        seed = seed * 6364136223846793005L + 1442695040888963407L;
        return (int) ((seed >>> 33) % bound);
    }

    private int oddOr(int usual) {
        return below(120) == 0 ? ODD[below(ODD.length)] : usual;
    }

    private int someSession() {
        return oddOr(below(sessions));
    }

    private int someKey() {
        return oddOr(below(keys));
    }

    private int someName() {
        return oddOr(below(names));
    }

    private int someValue() {
        int[] usual = {0, 1, 5, 9999, 9998, below(10), below(10000), 5000};
        return oddOr(usual[below(usual.length)]);
    }

    private int someMask() {
        int mask = 0;
        for (int i = 1 + below(3); i > 0; i--) {
            mask |= 1 << below(keys);
        }
        return oddOr(mask);
    }

    private long[] note(String call, long got, long due) {
        calls.addLast(call + " = " + got);
        if (calls.size() > SHOWN_CALLS) {
            calls.removeFirst();
        }
        return new long[] {got, due};
    }

    private long[] call() {
        if (!typing.isEmpty()) {
            return typeOn();
        }
        int kind = below(100);
        if (kind < 34) {
            return statement();
        }
        int s = someSession();
        int name = someName();
        if (kind < 42) {
            return note("begin(" + s + ")", store.begin(s), model.begin(s));
        }
        if (kind < 44) {
            return note("commit(" + s + ")", store.commit(s), model.commit(s));
        }
        if (kind < 46) {
            return note("rollback(" + s + ")", store.rollback(s), model.rollback(s));
        }
        if (kind < 58) {
            return note("savepoint(" + s + ", " + name + ")",
                    store.savepoint(s, name), model.savepoint(s, name));
        }
        if (kind < 66) {
            return note("undoTo(" + s + ", " + name + ")", store.undoTo(s, name), model.undoTo(s, name));
        }
        if (kind < 70) {
            return note("release(" + s + ", " + name + ")",
                    store.release(s, name), model.release(s, name));
        }
        if (kind < 76) {
            boolean isKept = below(2) == 0;
            return note("keep(" + isKept + ")", store.keep(isKept), model.keep(isKept));
        }
        return textOrHistory(kind);
    }

    private long[] textOrHistory(int kind) {
        if (kind < 84) {
            return note("undo()", store.undo(), model.undo());
        }
        if (kind < 86) {
            return note("save()", store.save(), model.save());
        }
        if (kind < 88) {
            return note("restore()", store.restore(), model.restore());
        }
        if (kind < 92) {
            return note("perform()", store.perform(), model.perform());
        }
        if (kind < 94) {
            int character = new int[] {31, 127, -1, Integer.MAX_VALUE, 65536 + 'b'}[below(5)];
            return note("append(" + character + ")", store.append(character), model.append(character));
        }
        typing = someScript();
        return note("clearText()", store.clearText(), model.clearText());
    }

    private long[] typeOn() {
        char character = typing.charAt(0);
        typing = typing.substring(1);
        if (character == '!') {
            return note("perform()", store.perform(), model.perform());
        }
        return note("append('" + character + "')", store.append(character), model.append(character));
    }

    /** Most are scripts; some have a wrong character or are cut off; '!' performs. */
    private String someScript() {
        StringBuilder text = new StringBuilder();
        int orders = 1 + below(5);
        for (int i = 0; i < orders; i++) {
            text.append(i == 0 ? "" : ";").append(someOrder());
        }
        int flaw = below(12);
        if (flaw == 0) {
            text.setCharAt(below(text.length()), "0123bcrsudweg=;ah 9".charAt(below(19)));
        } else if (flaw == 1) {
            text.setLength(below(text.length() + 1));
        }
        return text.append(below(8) == 0 ? "" : "!!".substring(below(2))).toString();
    }

    private String someOrder() {
        int s = below(sessions);
        char letter = "bbcrsssuudwwwwegg".charAt(below(17));
        switch (letter) {
            case 'b':
            case 'c':
            case 'r':
                return "" + s + letter;
            case 's':
            case 'u':
            case 'd':
                return "" + s + letter + (char) ('a' + below(names));
            case 'w':
                return "" + s + letter + below(keys) + "=" + below(new int[] {3, 10000}[below(2)]);
            default:
                return "" + s + letter + below(keys);
        }
    }

    private long[] statement() {
        int s = someSession();
        int key = someKey();
        switch (below(8)) {
            case 0:
            case 1:
                return note("read(" + s + ", " + key + ")", store.read(s, key), model.read(s, key));
            case 2:
            case 3:
                int value = someValue();
                return note("write(" + s + ", " + key + ", " + value + ")",
                        store.write(s, key, value), model.write(s, key, value));
            case 4:
                return note("erase(" + s + ", " + key + ")", store.erase(s, key), model.erase(s, key));
            case 5:
                int mask = someMask();
                int delta = below(2) == 0 ? someValue() : -below(20);
                return note("shift(" + s + ", " + mask + ", " + delta + ")",
                        store.shift(s, mask, delta), model.shift(s, mask, delta));
            default:
                int to = someKey();
                int amount = someValue();
                return note("move(" + s + ", " + key + ", " + to + ", " + amount + ")",
                        store.move(s, key, to, amount), model.move(s, key, to, amount));
        }
    }

    private void compareQueries(int run) {
        same(run, "fault()", store.fault(), model.fault());
        same(run, "mean()", Double.doubleToLongBits(store.mean()), Double.doubleToLongBits(model.mean()));
        for (int what = -1; what <= 7; what++) {
            same(run, "total(" + what + ")", store.total(what), model.total(what));
        }
        for (int key = -1; key <= keys; key++) {
            same(run, "value(" + key + ")", store.value(key), model.value(key));
            same(run, "committed(" + key + ")", store.committed(key), model.committed(key));
            for (int mode = 0; mode <= 3; mode++) {
                same(run, "busyFor(" + key + ", " + mode + ")",
                        store.busyFor(key, mode), model.busyFor(key, mode));
            }
        }
        for (int s = -1; s <= sessions; s++) {
            compareSession(run, s);
        }
    }

    private void compareSession(int run, int s) {
        for (int what = -1; what <= 5; what++) {
            same(run, "session(" + s + ", " + what + ")", store.session(s, what), model.session(s, what));
        }
        for (int key = -1; key <= keys; key++) {
            same(run, "mode(" + s + ", " + key + ")", store.mode(s, key), model.mode(s, key));
        }
        for (int name = -1; name <= names; name++) {
            same(run, "nearest(" + s + ", " + name + ")", store.nearest(s, name), model.nearest(s, name));
            int key = below(keys + 2) - 1;
            same(run, "ifUndone(" + s + ", " + name + ", " + key + ")",
                    store.ifUndone(s, name, key), model.ifUndone(s, name, key));
        }
        for (int savepoint = -1; savepoint <= 12; savepoint++) {
            same(run, "nameOf(" + s + ", " + savepoint + ")",
                    store.nameOf(s, savepoint), model.nameOf(s, savepoint));
            same(run, "changedSince(" + s + ", " + savepoint + ", true)",
                    store.changedSince(s, savepoint, true), model.changedSince(s, savepoint, true));
            same(run, "changedSince(" + s + ", " + savepoint + ", false)",
                    store.changedSince(s, savepoint, false), model.changedSince(s, savepoint, false));
        }
    }

    private void same(int run, String query, long got, long due) {
        if (got != due) {
            fail(run, query + " answered " + got + ", due is " + due);
        }
    }
}
