import java.util.LinkedHashSet;
import java.util.Set;

/** The section "Text" of the document's terms, a sentence or a part of one each. */
public final class TextTermsTest extends Cases {
    /**
     * Behind every beginning of a script one of these makes it a script: behind nothing or a semicolon,
     * a session, an order with a name, an order with a key, a write, its key, and its equals sign.
     */
    private static final String[] COMPLETIONS = {"", "0b", "b", "a", "0", "0=0", "=0"};

    private static final Set<String> ORDERS = allOrders();

    public static void main(String[] args) throws ReflectiveOperationException {
        new TextTermsTest().runAll("text");
    }

    private static int faultOf(String text) {
        return Checks.fault(new SavepointStore(), text);
    }

    /** Each order with its session, name, key and value, as the document writes them. */
    private static Set<String> allOrders() {
        Set<String> orders = new LinkedHashSet<>();
        for (char session = '0'; session <= '2'; session++) {
            for (char order : "bcr".toCharArray()) {
                orders.add("" + session + order);
            }
            for (char name = 'a'; name <= 'h'; name++) {
                for (char order : "sud".toCharArray()) {
                    orders.add("" + session + order + name);
                }
            }
            for (int key = 0; key <= 15; key++) {
                orders.add(session + "e" + key);
                orders.add(session + "g" + key);
                for (int value = 0; value <= 9999; value += value < 120 ? 1 : 97) {
                    orders.add(session + "w" + key + "=" + value);
                }
                orders.add(session + "w" + key + "=9999");
            }
        }
        return orders;
    }

    /** "There is a text of at most 80 characters (empty at first)." */
    void textOfAtMost80Characters() {
        due("at first", new SavepointStore().clearText(), 0);
        SavepointStore store = new SavepointStore();
        for (int length = 1; length <= 80; length++) {
            due("append", store.append(Scenes.FULL_SCRIPT.charAt(length - 1)), length);
        }
        due("an 81st character", store.append(';'), TOO_MANY);
        due("fault", store.fault(), NONE);
        due("the length", store.clearText(), 80);
    }

    /** "script = order { ";" order }" with each order that there is, alone and beside others. */
    void textOfEachOrder() {
        int wrong = 0;
        String before = "0b";
        for (String order : ORDERS) {
            wrong += faultOf(order) == NONE ? 0 : 1;
            wrong += faultOf(before + ';' + order) == NONE ? 0 : 1;
            wrong += faultOf(order + ';' + order + ';' + before) == NONE ? 0 : 1;
            before = order;
        }
        due("scripts that have a fault", wrong, 0);
        holds("there are orders enough: " + ORDERS.size(), ORDERS.size() > 10_000);
    }

    /** Of one or two characters, and of three behind a session and a letter, only an order is a script. */
    void textOfFewCharacters() {
        int wrong = 0;
        for (char first = 32; first <= 126; first++) {
            wrong += faultOf("" + first) == NONE ? 1 : 0;
            for (char second = 32; second <= 126; second++) {
                String two = "" + first + second;
                wrong += (faultOf(two) == NONE) == ORDERS.contains(two) ? 0 : 1;
            }
        }
        for (char second = 97; second <= 122; second++) {
            for (char third = 32; third <= 126; third++) {
                String three = "1" + second + third;
                wrong += (faultOf(three) == NONE) == ORDERS.contains(three) ? 0 : 1;
            }
        }
        due("texts that are taken for something else", wrong, 0);
    }

    /** "a key a number from 0 to 15, a value a number from 0 to 9999, both without leading zeros" */
    void textNumbers() {
        for (int number = 0; number <= 120; number++) {
            boolean isKey = number <= 15;
            holds("e" + number, (faultOf("0e" + number) == NONE) == isKey);
            holds("g" + number, (faultOf("2g" + number) == NONE) == isKey);
            holds("w" + number, (faultOf("1w" + number + "=0") == NONE) == isKey);
            holds("a value of a leading zero", faultOf("0w0=0" + number) == 5);
            holds("a key of a leading zero", faultOf("0e0" + number) == 3);
            holds("a written key of a leading zero", faultOf("0w0" + number + "=0") == 3);
        }
        for (int number = 9_990; number <= 10_010; number++) {
            holds("the value " + number, (faultOf("1w0=" + number) == NONE) == (number <= 9999));
        }
        due("a value of five digits", faultOf("0w0=12345"), 8);
        due("a value of five digits and a semicolon", faultOf("0w0=12345;"), 8);
    }

    /** "The orders mean: b begin, c commit, .." with the same session, name, key and value. */
    void textOrdersMean() {
        for (Run scene : new Run[] {Scenes.MIXED, Scenes.FULL_SAVEPOINTS, Scenes.ALL_MARKED}) {
            for (int session = 0; session <= 2; session++) {
                int by = session;
                dueAsTheMethod(session + "b", store -> store.begin(by), scene);
                dueAsTheMethod(session + "c", store -> store.commit(by), scene);
                dueAsTheMethod(session + "r", store -> store.rollback(by), scene);
                for (int name = 0; name <= 7; name += session == 0 ? 1 : 7) {
                    int of = name;
                    char letter = (char) ('a' + name);
                    dueAsTheMethod(session + "s" + letter, store -> store.savepoint(by, of), scene);
                    dueAsTheMethod(session + "u" + letter, store -> store.undoTo(by, of), scene);
                    dueAsTheMethod(session + "d" + letter, store -> store.release(by, of), scene);
                }
                for (int key : new int[] {0, 1, 9, 10, 15}) {
                    dueAsTheMethod(session + "w" + key + "=73", store -> store.write(by, key, 73), scene);
                    dueAsTheMethod(session + "e" + key, store -> store.erase(by, key), scene);
                    dueAsTheMethod(session + "g" + key, store -> store.read(by, key), scene);
                }
            }
        }
    }

    /** The order is counted just if the method returns no error code, nor BUSY or FAILED; the state is the same. */
    private void dueAsTheMethod(String order, Call method, Run scene) {
        Run called = scene.then(method::on);
        Run performed = scene.then(store -> Checks.perform(store, order));
        int answer = method.on(scene.made());
        due(order, Checks.perform(scene.made(), order), answer >= 0 || answer == NONE ? 1 : 0);
        sameState("the state behind " + order, performed, called);
        sameTotals("the totals behind " + order, performed, called);
    }

    /**
     * "The fault .. is the index of the first character such that no script, of any length, begins with
     * the characters up to and including it. If there is no such character, .. the length of the text."
     */
    void textFaultByItsDefinition() {
        String[] texts = {
            "", "0", "0b", "0b;", "0b;1", "0b;1s", "0b;1sa", "0b;1sa;", "0w", "0w1", "0w15", "0w15=", "0w15=0",
            "0w1=12;2e1", "0w1=9999;2e", "0e1", "0g15;0", "x", "0x", "0bb", "0b,1b", "0b;;1b", ";0b", "3b", "0si",
            "0s", "0sab", "0w16=1", "0w01=1", "0w1;1", "0w1=;", "0w1=01", "0w1=10000", "0e16", "0e1;0e20", "0g1=1",
            "0b ", " 0b", "0B", "0b;1c;2r;0x", "0w15=9999;1w16", "2d`", "2dh;2", "0w1=-1", "0w1==", "0=1", "b0",
        };
        for (String text : texts) {
            int fault = faultOf(text);
            int end = fault == NONE ? text.length() : fault;
            for (int length = 0; length <= text.length(); length++) {
                holds("a script begins with the first " + length + " of '" + text + "': " + (length <= end),
                        canBeCompleted(text.substring(0, length)) == (length <= end));
            }
        }
        due("a text of 80 that a longer script begins with",
                faultOf(Scenes.FULL_SCRIPT.substring(0, 79) + "w"), 80);
    }

    private static boolean canBeCompleted(String text) {
        for (String completion : COMPLETIONS) {
            if (faultOf(text + completion) == NONE) {
                return true;
            }
        }
        return false;
    }

    /** "but the text is not a complete script (as the empty text), the fault is the length of the text" */
    void textThatIsNotComplete() {
        due("the empty text", new SavepointStore().fault(), 0);
        for (String order : new String[] {"1b", "0sc", "2w7=0", "1e3", "0g15"}) {
            for (int length = 1; length < order.length(); length++) {
                String cut = order.substring(0, length);
                if (!ORDERS.contains(cut)) {
                    due("fault of '" + cut + "'", faultOf(cut), length);
                    due("fault of '0b;" + cut + "'", faultOf("0b;" + cut), 3 + length);
                }
            }
            due("fault of '" + order + ";'", faultOf(order + ';'), order.length() + 1);
        }
    }
}
