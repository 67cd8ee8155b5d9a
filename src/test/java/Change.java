/**
 * What a transaction of session 1 does to the values that were there before it, and how many keys it
 * leaves with another value, or with a value instead of none, or with none instead of a value.
 */
record Change(String name, int keys, Run before, Run during) {
    private static final Run NOTHING = store -> { };
    private static final Run FIVE = store -> store.write(1, 0, 5);
    private static final Run ZERO = store -> store.write(1, 0, 0);
    private static final Run FILL = store -> {
        for (int key = 0; key < 16; key++) {
            store.write(1, key, key);
        }
    };
    private static final Run ERASE = store -> {
        for (int key = 0; key < 16; key++) {
            store.erase(1, key);
        }
    };

    static final Change[] OF_NO_KEY = {
        new Change("nothing", 0, FIVE, NOTHING),
        new Change("reads", 0, FIVE, store -> {
            store.read(1, 0);
            store.read(1, 1);
        }),
        new Change("writing the same value", 0, FIVE, FIVE),
        new Change("shifting by 0", 0, FIVE, store -> store.shift(1, 1, 0)),
        new Change("another value and then the one as before", 0, FIVE, store -> {
            store.write(1, 0, 6);
            store.savepoint(1, 0);
            store.erase(1, 0);
            store.write(1, 0, 5);
        }),
        new Change("a value and then none as before", 0, FIVE, store -> {
            store.write(1, 1, 6);
            store.erase(1, 1);
        }),
        new Change("erasing no value", 0, FIVE, store -> store.erase(1, 1)),
        new Change("a change that was undone", 0, FIVE, store -> {
            store.savepoint(1, 0);
            store.write(1, 0, 6);
            store.undoTo(1, 0);
        }),
        new Change("a statement that failed", 0, FIVE, store -> store.shift(1, 3, 1)),
        new Change("writing all the same values", 0, FILL, FILL),
    };

    static final Change[] OF_ONE_KEY = {
        new Change("another value", 1, ZERO, store -> store.write(1, 0, 1)),
        new Change("a value instead of none", 1, ZERO, store -> store.write(1, 15, 0)),
        new Change("none instead of a value", 1, ZERO, store -> store.erase(1, 0)),
        new Change("two changes of a key", 1, ZERO, store -> {
            store.write(1, 0, 1);
            store.savepoint(1, 0);
            store.write(1, 0, 2);
        }),
    };

    static final Change[] OF_ALL_KEYS = {
        new Change("values instead of none", 16, NOTHING, FILL),
        new Change("other values", 16, FILL, store -> store.shift(1, 65535, 1)),
        new Change("none instead of values", 16, FILL, ERASE),
    };

    /** The transaction is open, and what was before it is committed. */
    Run open() {
        return committed().then(store -> store.begin(1)).then(during);
    }

    Run committed() {
        return store -> {
            store.begin(1);
            before.on(store);
            store.commit(1);
        };
    }
}
