/** The boundary cases of promises 14 to 17 and of the section "Text". */
public final class TextBoundaryTest extends Cases {
    private static final int[] NO_CHARACTERS =
        {31, 127, 0, -1, 128, 256 + 48, 65536 + 48, 65536 + 98, MIN, MIN + 48, MAX};

    /** 80 characters that are no script: the last order is cut off. */
    private static final String CUT_TEXT = Scenes.FULL_SCRIPT.substring(0, 76) + "w15=";

    public static void main(String[] args) throws ReflectiveOperationException {
        new TextBoundaryTest().runAll(14, 17);
    }

    private static Run text(String text) {
        return store -> Scenes.type(store, text);
    }

    private void dueFault(String text, int want) {
        due("fault of '" + text + "'", text(text).made().fault(), want);
    }

    /** The fault is the last character. */
    private void dueFaultAtEnd(String text) {
        dueFault(text, text.length() - 1);
    }

    /** A script, and so is each of its beginnings the beginning of one. */
    private void dueScript(String text) {
        dueFault(text, NONE);
    }

    /** The beginning of a script, but none itself: the fault is the length. */
    private void dueCut(String text) {
        dueFault(text, text.length());
    }

    // ---- 14: append

    void promise14CharacterOutOfRange() {
        for (int character : NO_CHARACTERS) {
            refused("append(" + character + ")", BAD_VALUE, store -> store.append(character),
                    Scenes.NOTHING, Scenes.MIXED);
        }
    }

    void promise14TextOf80Characters() {
        for (int character : new int[] {32, 48, 59, 126}) {
            refused("append(" + character + ")", TOO_MANY, store -> store.append(character), Scenes.FULL_TEXT);
        }
    }

    void promise14FirstCodeOfTwo() {
        for (int character : NO_CHARACTERS) {
            refused("append(" + character + ") to 80", BAD_VALUE, store -> store.append(character),
                    Scenes.FULL_TEXT);
        }
    }

    void promise14LeastAndGreatestCharacter() {
        for (int character = 32; character <= 126; character++) {
            due("append(" + character + ")", new SavepointStore().append(character), 1);
        }
    }

    /** "Returns the length of the text", from 1 to 80 */
    void promise14LengthFrom1To80() {
        SavepointStore store = new SavepointStore();
        for (int length = 1; length <= 80; length++) {
            due("append", store.append(length % 2 == 1 ? '0' : 126), length);
        }
        due("an 81st character", store.append('0'), TOO_MANY);
        due("an 82nd character", store.append('0'), TOO_MANY);
        due("clearText", store.clearText(), 80);
        due("the first again", store.append('0'), 1);
    }

    /** The character stands at the end of the text and is read there. */
    void promise14The80thCharacterIsRead() {
        SavepointStore store = text(Scenes.FULL_SCRIPT.substring(0, 79)).made();
        due("fault of 79", store.fault(), 79);
        due("the 80th", store.append('b'), 80);
        due("fault of 80", store.fault(), NONE);
    }

    void promise14NoAction() {
        due("states", statesOf(Scenes.FULL_TEXT), 5);
        due("states", statesOf(text("0b")), 0);
    }

    // ---- 15: clearText

    void promise15EmptyAndFullText() {
        due("of nothing", new SavepointStore().clearText(), 0);
        due("of one", text("0").made().clearText(), 1);
        due("of 79", text(Scenes.FULL_SCRIPT.substring(0, 79)).made().clearText(), 79);
        due("of 80", Scenes.FULL_TEXT.made().clearText(), 80);
        changesNothing("clearText of nothing", SavepointStore::clearText, Scenes.ALL_OPEN);
    }

    void promise15NothingIsLeft() {
        SavepointStore store = Scenes.FULL_TEXT.made();
        store.clearText();
        due("fault", store.fault(), 0);
        due("perform", store.perform(), -100);
        due("clearText", store.clearText(), 0);
        Checks.type(store, "0w");
        due("fault of a shorter text", store.fault(), 2);
        due("clearText is no action", statesOf(text("0b").then(SavepointStore::clearText)), 0);
    }

    // ---- 16: fault

    void promise16EmptyText() {
        dueFault("", 0);
        changesNothing("fault", SavepointStore::fault, Scenes.MIXED);
    }

    /** "session: a digit from 0 to 2" */
    void promise16Session() {
        dueScript("0b");
        dueScript("1b");
        dueScript("2b");
        dueFaultAtEnd("/");
        dueFaultAtEnd("3");
        dueFaultAtEnd("9");
        dueFaultAtEnd("0b;/");
        dueFaultAtEnd("0b;3");
        dueFaultAtEnd("00");
        dueFaultAtEnd("b");
        dueCut("0");
        dueCut("2");
    }

    void promise16Orders() {
        for (char order = 32; order <= 126; order++) {
            String text = "0" + order;
            if ("bcr".indexOf(order) >= 0) {
                dueScript(text);
            } else if ("sudweg".indexOf(order) >= 0) {
                dueCut(text);
            } else {
                dueFaultAtEnd(text);
            }
        }
    }

    /** "a name a letter from a to h" */
    void promise16Name() {
        for (String order : new String[] {"0s", "1u", "2d"}) {
            dueCut(order);
            dueScript(order + "a");
            dueScript(order + "h");
            dueFaultAtEnd(order + "`");
            dueFaultAtEnd(order + "i");
            dueFaultAtEnd(order + "A");
            dueFaultAtEnd(order + "0");
            dueFaultAtEnd(order + ";");
            dueFaultAtEnd(order + "aa");
        }
    }

    /** "a key a number from 0 to 15 .. without leading zeros" */
    void promise16Key() {
        for (int key = 0; key <= 15; key++) {
            dueScript("0e" + key);
            dueScript("0g" + key);
            dueScript("0w" + key + "=0");
            dueCut("0w" + key);
            dueCut("0w" + key + "=");
        }
        for (String order : new String[] {"0e", "1g", "2w"}) {
            dueCut(order);
            for (String wrong : new String[] {"16", "19", "1/", "1:", "20", "90", "00", "01", "015", "100", "150",
                "/", ":", "-", ";", "=", " "}) {
                int fit = wrong.startsWith("1") ? Math.min(wrong.length() - 1, 2) : wrong.length() > 1 ? 1 : 0;
                dueFault(order + wrong, order.length() + fit);
            }
        }
        dueFaultAtEnd("0e1=");
        dueFaultAtEnd("0g15=");
        dueFaultAtEnd("0w1;");
        dueFaultAtEnd("0w15;");
        dueFaultAtEnd("0w0;");
    }

    /** "a value a number from 0 to 9999 .. without leading zeros" */
    void promise16Value() {
        for (int value : new int[] {0, 1, 9, 10, 99, 100, 999, 1000, 9998, 9999}) {
            dueScript("0w0=" + value);
            dueScript("0w15=" + value + ";0b");
            dueCut("0w1=" + value + ";");
        }
        dueFaultAtEnd("0w0=10000");
        dueFaultAtEnd("0w0=99990");
        dueFaultAtEnd("0w0=00");
        dueFaultAtEnd("0w0=01");
        dueFaultAtEnd("0w0=-");
        dueFaultAtEnd("0w0=/");
        dueFaultAtEnd("0w0=:");
        dueFaultAtEnd("0w0=;");
        dueFaultAtEnd("0w0==");
        dueFaultAtEnd("0w0=1/");
        dueFaultAtEnd("0w0=1:");
        dueFaultAtEnd("0w0=12:");
        dueFaultAtEnd("0w0=123:");
        dueFaultAtEnd("0w0=1234:");
        dueFaultAtEnd("0w0=0=");
    }

    /** script = order { ";" order } */
    void promise16Semicolons() {
        dueFaultAtEnd(";");
        dueFaultAtEnd("0;");
        dueFaultAtEnd("0b;;");
        dueFaultAtEnd("0b:");
        dueFaultAtEnd("0b<");
        dueFaultAtEnd("0b ");
        for (String order : new String[] {"0b", "1c", "2r", "0sa", "0uh", "0dc", "0e1", "0g15", "0w1=1", "0w1=12",
            "0w1=123", "0w1=9999", "0w1=0"}) {
            dueScript(order + ";0b");
            dueCut(order + ";");
            dueFaultAtEnd(order + ";;");
        }
    }

    /** "the index of the first character such that no script .. begins with" it; what follows is free. */
    void promise16FirstOfSeveral() {
        dueFault("x;x", 0);
        dueFault("0x;;9", 1);
        dueFault("0b;0w16=1;x", 6);
        dueFault("0b;1b;;1b", 6);
    }

    /** "no script, of any length": a text of 80 can be the beginning of a longer script. */
    void promise16FullText() {
        dueScript(Scenes.FULL_SCRIPT);
        dueFault(CUT_TEXT, 80);
        dueFault(Scenes.FULL_SCRIPT.substring(0, 79) + ";", 79);
        dueFault(Scenes.FULL_SCRIPT.substring(0, 79) + "s", 80);
        dueScript(Scenes.FULL_SCRIPT.substring(0, 74) + ";0w0=9");
        dueFaultAtEnd(Scenes.FULL_SCRIPT.substring(0, 74) + ";0w0=/");
        dueFault("x" + Scenes.FULL_SCRIPT.substring(1), 0);
        dueFault(";".repeat(80), 0);
        dueFault(Scenes.FULL_SCRIPT.substring(0, 78) + "0;", 79);
    }

    // ---- 17: perform

    /** "-100 minus the fault (an error code) if the text is not a complete script" */
    void promise17NoScript() {
        refused("perform of nothing", -100, SavepointStore::perform, Scenes.NOTHING,
                Scenes.MIXED.then(SavepointStore::clearText));
        refused("perform of a wrong first character", -100, SavepointStore::perform,
                Scenes.MIXED.then(text("x")));
        refused("perform of one character", -101, SavepointStore::perform, Scenes.MIXED.then(text("0")));
        refused("perform of a wrong end", -103, SavepointStore::perform, Scenes.MIXED.then(text("2b;x")));
        refused("perform of a cut end", -105, SavepointStore::perform, Scenes.MIXED.then(text("2b;2s")));
        refused("perform of a wrong 80th character", -179, SavepointStore::perform,
                Scenes.MIXED.then(text(Scenes.FULL_SCRIPT.substring(0, 79) + ";")));
        refused("perform of 80 that are cut", -180, SavepointStore::perform, Scenes.MIXED.then(text(CUT_TEXT)));
    }

    private void duePerform(String text, int want, Run before) {
        due("perform of '" + text + "'", before.then(text(text)).made().perform(), want);
    }

    /** "Returns the number of orders that are carried out before this one, or of all orders" */
    void promise17LeastAndGreatestNumber() {
        duePerform("0c", 0, Scenes.NOTHING);
        duePerform("0b", 1, Scenes.NOTHING);
        duePerform(Scenes.FULL_SCRIPT, 27, Scenes.NOTHING);
        duePerform(Scenes.FULL_SCRIPT.substring(0, 78) + "0c", 26, Scenes.NOTHING);
        duePerform("1" + Scenes.FULL_SCRIPT.substring(1), 1, Scenes.NOTHING);
    }

    /** "Carries out the orders of the text, one after the other, as the methods do" */
    void promise17OneAfterTheOtherAsTheMethodsDo() {
        String script = "2b;0uc;2g15;0w9=90;0sb;2w7=1;0e0;0db;1c;2sh;2r;0c;0b";
        Run performed = Scenes.MIXED.then(text(script)).then(SavepointStore::perform);
        Run called = Scenes.MIXED.then(store -> {
            store.begin(2);
            store.undoTo(0, 2);
            store.read(2, 15);
        });
        due("busy at the third", Scenes.MIXED.then(text(script)).made().perform(), 2);
        sameState("up to the third", performed, called);
        sameTotals("up to the third", performed, called);
        Run free = Scenes.MIXED.then(store -> store.commit(1));
        Run all = free.then(store -> {
            store.begin(2);
            store.undoTo(0, 2);
            store.read(2, 15);
            store.write(0, 9, 90);
            store.savepoint(0, 1);
            store.write(2, 7, 1);
            store.erase(0, 0);
            store.release(0, 1);
        });
        due("the session 1 is closed", free.then(text(script)).made().perform(), 8);
        sameState("up to the ninth", free.then(text(script)).then(SavepointStore::perform), all);
        sameTotals("up to the ninth", free.then(text(script)).then(SavepointStore::perform), all);
    }

    /** "up to the first one for which the method would return an error code" */
    void promise17EachErrorCodeEnds() {
        for (int session = 0; session <= 2; session++) {
            for (String order : new String[] {"c", "r", "sa", "ua", "da", "w0=0", "e0", "g0"}) {
                duePerform(session + order, 0, Scenes.NOTHING);
                duePerform(session + "b;" + session + "c;" + session + order + ";0b", 2, Scenes.NOTHING);
            }
            duePerform(session + "b;" + session + "b;" + session + "c", 1, Scenes.NOTHING);
        }
        duePerform("0ua;0c", 0, Scenes.MIXED);
        duePerform("0da;0c", 0, Scenes.MIXED);
        duePerform("0sa;0c", 0, Scenes.FULL_SAVEPOINTS);
        duePerform("0dd;0sa;0sb;0c", 2, Scenes.FULL_SAVEPOINTS);
        SavepointStore store = text("0b;1b;1b;2b").then(SavepointStore::perform).made();
        due("the order before it", store.session(1, 0), 1);
        due("the order behind it", store.session(2, 0), 0);
    }

    /** "(an order that returns BUSY or FAILED is carried out as the last one and not counted)" */
    void promise17BusyEnds() {
        for (String order : new String[] {"1g0", "1e0", "1w0=1", "2g15"}) {
            Run before = Scenes.ALL_OPEN.then(store -> {
                store.write(0, 0, 5);
                store.write(0, 15, 5);
            });
            Run busy = before.then(text("1sa;" + order + ";1sb")).then(SavepointStore::perform);
            duePerform("1sa;" + order + ";1sb", 1, before);
            due("total(3) behind " + order, busy.made().total(3), 1);
            due("total(2) behind " + order, busy.made().total(2), 2);
            due("savepoints behind " + order, busy.made().session(1, 1), 1);
            due("value(0) behind " + order, busy.made().value(0), 5);
        }
    }

    /** NONE is no error code: the orders behind it are carried out. */
    void promise17NoneDoesNotEnd() {
        duePerform("0b;0g0;0g15;0e0;0w0=0;0w15=9999;0c", 7, Scenes.NOTHING);
    }

    void promise17LeastAndGreatestOperands() {
        SavepointStore store = new SavepointStore();
        due("begins and writes", Checks.perform(store, "2b;2w0=9999;2w15=0;2w1=10;2w10=1"), 5);
        due("value(0)", store.value(0), 9999);
        due("value(15)", store.value(15), 0);
        due("value(1)", store.value(1), 10);
        due("value(10)", store.value(10), 1);
        due("savepoints", Checks.perform(store, "2sa;2sh;2sa"), 3);
        due("nameOf(2, 0)", store.nameOf(2, 0), 0);
        due("nameOf(2, 1)", store.nameOf(2, 1), 7);
        due("erases", Checks.perform(store, "2e0;2e15"), 2);
        due("value(0)", store.value(0), NONE);
        due("value(15)", store.value(15), NONE);
        due("undoTo", Checks.perform(store, "2ua"), 1);
        due("value(15)", store.value(15), 0);
        due("savepoints", store.session(2, 1), 3);
        due("release", Checks.perform(store, "2dh"), 1);
        due("savepoints", store.session(2, 1), 1);
        due("reads", Checks.perform(store, "0b;0g14;2c;0g15;0g0;0r"), 6);
        due("begin", Checks.perform(store, "1b;1g15;1g0"), 3);
        dueModes("shared", store, 1, 1, 1 | 1 << 15);
    }

    /** "The text does not change." */
    void promise17TextStays() {
        SavepointStore store = text(Scenes.FULL_SCRIPT).made();
        due("perform", store.perform(), 27);
        due("perform again", store.perform(), 0);
        due("fault", store.fault(), NONE);
        due("clearText", store.clearText(), 80);
    }

    /** "This is one action", also if no order is carried out or the last one ends with BUSY. */
    void promise17OneAction() {
        recorded("perform of 27 orders", SavepointStore::perform, text(Scenes.FULL_SCRIPT));
        recorded("perform of an error alone", SavepointStore::perform, text("0c"));
        recorded("perform", SavepointStore::perform, Scenes.MIXED);
        recorded("perform of a busy order", SavepointStore::perform, Scenes.MIXED.then(text("1g0")));
        recorded("perform of an error", SavepointStore::perform, Scenes.MIXED.then(text("0w0=5;0b")));
    }
}
