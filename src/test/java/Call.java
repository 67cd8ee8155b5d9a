/** One call and its answer. */
interface Call {
    int on(SavepointStore store);

    /** A call that is told its session. */
    interface OfSession {
        int on(SavepointStore store, int session);

        default Call by(int session) {
            return store -> on(store, session);
        }
    }

    /** A call that is told its session and a key or a name. */
    interface OfTwo {
        int on(SavepointStore store, int session, int second);

        default Call by(int session, int second) {
            return store -> on(store, session, second);
        }
    }
}
