/** A run of calls that brings a new store into some state. */
interface Run {
    void on(SavepointStore store);

    /** A new store behind this run. */
    default SavepointStore made() {
        SavepointStore store = new SavepointStore();
        on(store);
        return store;
    }

    default Run then(Run next) {
        return store -> {
            on(store);
            next.on(store);
        };
    }
}
