import java.util.function.IntSupplier;

/** Everything that can be asked of a hall, as a text, so that two states can be compared. */
final class Snapshot {
    private Snapshot() {
    }

    static String of(Hall x) {
        StringBuilder text = new StringBuilder();
        text.append("fencers ").append(x.fencers());
        for (int f = -1; f <= 12; f++) {
            int fencer = f;
            put(text, " f" + f + " won", () -> x.won(fencer));
            put(text, "index", () -> x.index(fencer));
            put(text, "rank", () -> x.rankedAt(fencer));
        }
        for (int w = -1; w <= 24; w++) {
            int weapon = w;
            put(text, "\nw" + w, () -> x.mark(weapon));
            put(text, "of", () -> x.owner(weapon));
        }
        text.append("\npiste ").append(x.piste()).append(' ').append(x.isFencing());
        for (int s = -1; s <= 2; s++) {
            int side = s;
            put(text, "weapon", () -> x.weaponOf(side));
        }
        text.append("\npools ").append(x.poolBouts()).append(" size ").append(x.size());
        text.append(" gone ").append(x.gone());
        for (int n = -1; n <= 2 * x.size() + 1; n++) {
            int node = n;
            put(text, "n" + n, () -> x.nodeWinner(node));
        }
        for (int bout = -1; bout <= x.poolBouts(); bout++) {
            putBout(text, x, bout);
        }
        for (int bout = 99; bout <= 101 + x.size(); bout++) {
            putBout(text, x, bout);
        }
        return text.toString();
    }

    private static void putBout(StringBuilder text, Hall x, int bout) {
        put(text, "\nbout " + bout + " winner", () -> x.winner(bout));
        put(text, "phrases", () -> x.phrases(bout));
        for (int s = -1; s <= 2; s++) {
            int side = s;
            put(text, "side", () -> x.fencerOf(bout, side));
            put(text, "score", () -> x.score(bout, side));
            put(text, "anew", () -> x.scoreAnew(bout, side));
            put(text, "appeals", () -> x.appeals(bout, side));
        }
        for (int p = -1; p <= 12; p++) {
            int phrase = p;
            put(text, "p", () -> x.touches(bout, phrase));
        }
    }

    private static void put(StringBuilder text, String name, IntSupplier call) {
        text.append(' ').append(name).append(' ');
        try {
            text.append(call.getAsInt());
        } catch (RuntimeException e) {
            text.append(e.getClass().getSimpleName());
        }
    }
}
