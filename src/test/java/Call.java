/** One call and its answer. */
interface Call {
    int on(SavepointStore store);
}
