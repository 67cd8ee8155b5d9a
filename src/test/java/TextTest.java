import java.util.Random;

/** Promises 14 to 17 and the section "Text": append, clearText, fault, perform. */
public final class TextTest {
    private static final int NONE = SavepointStore.NONE;

    private final Checks checks = new Checks();
    private SavepointStore store = new SavepointStore();

    private TextTest() {
    }

    public static void main(String[] args) {
        TextTest test = new TextTest();
        test.promise14Append();
        test.promise15ClearText();
        test.promise16Fault();
        test.promise16AllContinuations();
        test.promise16RandomTexts();
        test.promise17Orders();
        test.promise17StopsAtAnError();
        test.promise17StopsAtBusy();
        test.promise17Fault();
        test.promise17OneAction();
        test.promise17LongestText();
        test.checks.end();
    }

    private void due(String call, long got, long want) {
        checks.due(call, got, want);
    }

    private void promise14Append() {
        store = new SavepointStore();
        int[] wrong = {31, 127, 0, -1, 65536 + 48, Integer.MIN_VALUE, Integer.MAX_VALUE};
        for (int character : wrong) {
            due("append(" + character + ")", store.append(character), SavepointStore.BAD_VALUE);
        }
        due("append(32)", store.append(32), 1);
        due("append(126)", store.append(126), 2);
        for (int length = 3; length <= 80; length++) {
            due("append('x')", store.append('x'), length);
        }
        due("an 81st character", store.append('x'), SavepointStore.TOO_MANY);
        due("a wrong 81st character", store.append(31), SavepointStore.BAD_VALUE);
        due("the length", store.clearText(), 80);
        due("append is no action", store.undo(), NONE);
    }

    private void promise15ClearText() {
        store = new SavepointStore();
        due("clearText of nothing", store.clearText(), 0);
        Checks.type(store, "0b;1b");
        due("clearText", store.clearText(), 5);
        due("clearText again", store.clearText(), 0);
        due("fault", store.fault(), 0);
        due("append", store.append('0'), 1);
        due("clearText is no action", store.undo(), NONE);
    }

    private void fault(String text, int want) {
        due("fault of '" + text + "'", Checks.fault(store, text), want);
    }

    private void promise16Fault() {
        store = new SavepointStore();
        String[] scripts = {"0b", "1c", "2r", "0sa", "1sh", "2ub", "0dg", "0w0=0", "1w15=9999", "2w9=10",
            "0w10=1", "0e0", "0e15", "1e9", "2g1", "2g10", "0b;1b;2b", "0w1=1;0w2=22;0w3=333;0w4=4444;0c",
            "0e1;0g1;0e15;0g0;0b"};
        for (String script : scripts) {
            fault(script, NONE);
        }
        String[] starts = {"", "0", "0s", "0w", "0w1", "0w15", "0w15=", "0w2", "0e", "2g", "0b;", "0b;1",
            "0w1=1;", "0e1;", "0g15;"};
        for (String start : starts) {
            fault(start, start.length());
        }
        fault("3", 0);
        fault("b", 0);
        fault(";", 0);
        fault(" 0b", 0);
        fault("0a", 1);
        fault("00", 1);
        fault("0B", 1);
        fault("0;", 1);
        fault("0si", 2);
        fault("0sA", 2);
        fault("0s0", 2);
        fault("0bb", 2);
        fault("0b ", 2);
        fault("0sab", 3);
        fault("0e16", 3);
        fault("0e01", 3);
        fault("0e20", 3);
        fault("0e150", 4);
        fault("0e=", 2);
        fault("0e1=", 3);
        fault("0w16=1", 3);
        fault("0w01=1", 3);
        fault("0w20=1", 3);
        fault("0w150", 4);
        fault("0w1;", 3);
        fault("0w=", 2);
        fault("0w1==", 4);
        fault("0w1=;", 4);
        fault("0w1=-1", 4);
        fault("0w1=00", 5);
        fault("0w1=01", 5);
        fault("0w1=10000", 8);
        fault("0w1=1000;", 9);
        fault("0b;;", 3);
        fault("0b;3b", 3);
        fault("0b;0x;;", 4);
        due("fault is no action", store.undo(), NONE);
    }

    /** Behind each of these texts every character is tried. */
    private void promise16AllContinuations() {
        String[] starts = {"", "0", "1", "2", "0b", "0c", "0r", "0s", "0u", "0d", "0sa", "0uh", "0dc", "0w",
            "0w0", "0w1", "0w9", "0w10", "0w15", "0w3=", "0w10=", "0w3=0", "0w3=1", "0w3=9", "0w3=10",
            "0w3=99", "0w3=100", "0w3=999", "0w3=1000", "0w3=9999", "0e", "0e0", "0e1", "0e7", "0e10",
            "0e15", "0g", "0g0", "0g1", "0g9", "0g12", "0b;", "0e1;", "1w1=1;"};
        store = new SavepointStore();
        int calls = 0;
        for (String start : starts) {
            for (char character = 32; character < 127; character++) {
                String text = start + character;
                calls += text.length() + 2;
                if (calls > 500) {
                    store = new SavepointStore();
                    calls = text.length() + 2;
                }
                fault(text, ReferenceModel.faultOf(text));
            }
        }
    }

    private void promise16RandomTexts() {
        Random random = new Random(20);
        String signs = "0012bcrsudwegah=;;159";
        for (int i = 0; i < 20000; i++) {
            StringBuilder text = new StringBuilder();
            for (int length = random.nextInt(12); length > 0; length--) {
                text.append(signs.charAt(random.nextInt(signs.length())));
            }
            store = new SavepointStore();
            fault(text.toString(), ReferenceModel.faultOf(text.toString()));
        }
    }

    private int perform(String text) {
        return Checks.perform(store, text);
    }

    private void promise17Orders() {
        store = new SavepointStore();
        due("begins", perform("0b;2b"), 2);
        due("session(0, 0)", store.session(0, 0), 1);
        due("session(1, 0)", store.session(1, 0), 0);
        due("session(2, 0)", store.session(2, 0), 1);
        due("writes", perform("0w15=9999;0w0=0;0w1=12;0w10=345"), 4);
        due("value(15)", store.value(15), 9999);
        due("value(0)", store.value(0), 0);
        due("value(1)", store.value(1), 12);
        due("value(10)", store.value(10), 345);
        due("savepoints", perform("0sa;0sh;0sa"), 3);
        due("nameOf(0, 1)", store.nameOf(0, 1), 7);
        due("nearest(0, 0)", store.nearest(0, 0), 2);
        due("erase and write", perform("0e15;0w1=13"), 2);
        due("value(15)", store.value(15), NONE);
        due("undoTo", perform("0ua"), 1);
        due("value(15)", store.value(15), 9999);
        due("value(1)", store.value(1), 12);
        due("release", perform("0dh"), 1);
        due("session(0, 1)", store.session(0, 1), 1);
        due("read", perform("2g14;2g9"), 2);
        due("mode(2, 14)", store.mode(2, 14), 1);
        due("mode(2, 9)", store.mode(2, 9), 1);
        due("rollback and commit", perform("2r;0c"), 2);
        due("total(0)", store.total(0), 1);
        due("total(1)", store.total(1), 1);
        due("total(2)", store.total(2), 8);
        due("total(5)", store.total(5), 1);
        due("total(6)", store.total(6), 3);
        due("committed(1)", store.committed(1), 12);
    }

    private void promise17StopsAtAnError() {
        store = new SavepointStore();
        due("at once", perform("0c"), 0);
        due("it is an action", store.undo(), 0);
        due("the second begin", perform("0b;0b;1b"), 1);
        due("session(1, 0)", store.session(1, 0), 0);
        due("a missing name", perform("0sa;0ub;0sc"), 1);
        due("session(0, 1)", store.session(0, 1), 1);
        due("too many", perform("0sa;0sa;0sa;0sa;0sa;0sa;0sa;0sa;0sa;0sa;0sa;0sa;0sa"), 11);
        due("session(0, 1)", store.session(0, 1), 12);
        due("NONE is no error", perform("0g0;0w0=1;0e0;0e0;0g0"), 5);
    }

    private void promise17StopsAtBusy() {
        store = new SavepointStore();
        due("busy", perform("0b;1b;0w3=4;1g3;1w4=4"), 3);
        due("total(3)", store.total(3), 1);
        due("value(4)", store.value(4), NONE);
        due("once more", store.perform(), 0);
        due("busy alone", perform("1e3;1b"), 0);
        due("total(3)", store.total(3), 2);
    }

    private void promise17Fault() {
        store = new SavepointStore();
        due("perform of nothing", store.perform(), -100);
        due("perform of a wrong text", perform("x"), -100);
        due("perform of a cut text", perform("0b;"), -103);
        due("perform of a wrong end", perform("0b;0w16=1"), -106);
        due("nothing was done", store.session(0, 0), 0);
        due("it is no action", store.undo(), NONE);
    }

    private void promise17OneAction() {
        store = new SavepointStore();
        due("perform", perform("0b;0sa;0w1=1;0w2=2;0ua;0w3=3"), 6);
        due("undo", store.undo(), 0);
        due("value(3)", store.value(3), NONE);
        due("session(0, 0)", store.session(0, 0), 0);
        due("total(2)", store.total(2), 0);
        due("the text is the same", store.perform(), 6);
        due("value(3)", store.value(3), 3);
        due("the length", store.clearText(), 28);
    }

    private void promise17LongestText() {
        store = new SavepointStore();
        StringBuilder text = new StringBuilder("0b");
        int orders = 1;
        while (text.length() + 6 <= 80) {
            text.append(";0w").append(orders % 9).append("=").append(orders % 10);
            orders++;
        }
        while (text.length() + 4 <= 80) {
            text.append(";0g1");
            orders++;
        }
        due("perform of " + text, perform(text.toString()), orders);
        due("the length", store.clearText(), text.length());

        store = new SavepointStore();
        due("80 characters that are a script", perform("0b" + ";0c;0b".repeat(13)), 27);
        due("their length", store.clearText(), 80);
        store = new SavepointStore();
        due("a text of 80 that is cut", perform("0b" + ";0c;0b".repeat(12) + ";0w15="), -180);
        due("a number that is the end", perform("0b" + ";0c;0b".repeat(12) + ";0w1=9"), 26);
        due("the length", store.clearText(), 80);
        due("value(1)", store.value(1), 9);
    }
}
