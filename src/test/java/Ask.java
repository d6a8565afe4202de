/** One call of the document, to be made on any hall; a boolean answer counts 1 or 0. */
interface Ask {
    long of(Hall hall);

    /** What the call answers, or the name of the exception that it throws. */
    static String answer(Hall hall, Ask ask) {
        try {
            return Long.toString(ask.of(hall));
        } catch (RuntimeException e) {
            return e.getClass().getSimpleName();
        }
    }
}
