/** Counts and prints the answers that are not the ones that are due. */
final class Checks {
    private int wrong;
    private int made;

    void due(String call, long got, long want) {
        made++;
        if (got != want) {
            wrong++;
            System.out.println(call + " answered " + got + ", due is " + want);
        }
    }

    void dueDouble(String call, double got, double want) {
        made++;
        if (got != want) {
            wrong++;
            System.out.println(call + " answered " + got + ", due is " + want);
        }
    }

    void holds(String claim, boolean isSo) {
        made++;
        if (!isSo) {
            wrong++;
            System.out.println("not so: " + claim);
        }
    }

    /** Appends all characters of a text. */
    static void type(SavepointStore store, String text) {
        for (int i = 0; i < text.length(); i++) {
            store.append(text.charAt(i));
        }
    }

    /** Replaces the text and performs it. */
    static int perform(SavepointStore store, String text) {
        store.clearText();
        type(store, text);
        return store.perform();
    }

    /** Replaces the text and asks for its fault. */
    static int fault(SavepointStore store, String text) {
        store.clearText();
        type(store, text);
        return store.fault();
    }

    /** How many states the history holds, ten if it has no end; it is emptied by this. */
    static int emptyHistory(SavepointStore store) {
        int states = 0;
        while (states < 10 && store.undo() != SavepointStore.NONE) {
            states++;
        }
        return states;
    }

    void end() {
        System.out.println(made + " checks, " + wrong + " wrong");
        if (wrong != 0 || made == 0) {
            System.exit(1);
        }
    }
}
