/** The sentences on the score of a bout, and on what is told of bouts: promises 18 to 23. */
public final class ScoreTest extends Edges {
    private static final int[] NO_SIDES = {-1, 2, MAX, MIN};

    public static void main(String[] args) {
        run(ScoreTest.class);
    }

    // ---- how a score comes about

    @Sentence("The score of a bout is 0 to 0 at first.")
    static void scoreAtFirst() {
        Hall x = hall(EPEE, 12);
        x.drawPools(1);
        for (int bout : new int[] {0, 1, 65}) {
            dueScore(x, bout, 0, 0, NONE);
        }
        x.begin(0, 0, 1);
        dueScore(x, 0, 0, 0, NONE);
        phrase(x, "0-5");
        dueScore(x, 0, 0, 0, NONE);
        touch(x, 1);
        dueScore(x, 0, 0, 1, NONE);
        dueScore(onFinal(EPEE), 101, 0, 0, NONE);
    }

    @Sentence("19: Returns the score; 0 if the bout has no phrases.")
    static void scoreWithoutPhrases() {
        Hall x = onPiste(EPEE);
        dueUnfenced(x, 0);
        x.allez();
        x.contact(0, true, 0);
        dueUnfenced(x, 0);
        Hall y = drawn(5);
        for (int bout = 101; bout <= 107; bout++) {
            dueUnfenced(y, bout);
        }
        // Nobody is on the side 1; the node has a winner without a bout.
        dueScore(y, 104, 0, 0, 0);
        // A bout that is gone has no phrases any more.
        Hall z = drawn(4);
        win(z, 102, 0);
        win(z, 103, 0);
        begin(z, 101);
        touch(z, 0);
        dueScore(z, 101, 1, 0, NONE);
        z.test(0, 0, 0);
        dueScore(z, 101, 0, 0, NONE);
    }

    @Sentence("Its phrases are gone through in order: each touch that is not struck makes the score of its side 1 more; "
        + "but if both sides have one, and both would come to the goal by that, neither does.")
    static void bothAtTheGoal() {
        Hall x = onPiste(EPEE);
        both(x);
        dueScore(x, 0, 1, 1, NONE);
        both(x);
        dueScore(x, 0, 2, 2, NONE);
        is("both would come to the goal", both(x), 3);
        dueScore(x, 0, 2, 2, NONE);
        both(x);
        dueScore(x, 0, 2, 2, NONE);
        touch(x, 1);
        dueScore(x, 0, 2, 3, 1);
        Hall y = onFinal(EPEE);
        for (int i = 1; i <= 4; i++) {
            both(y);
            dueScore(y, 101, i, i, NONE);
        }
        is("both would come to it in the tableau", both(y), 3);
        dueScore(y, 101, 4, 4, NONE);
        touch(y, 0);
        dueScore(y, 101, 5, 4, 0);
    }

    @Sentence("Its phrases are gone through in order: each touch that is not struck makes the score of its side 1 more; "
        + "but if both sides have one, and both would come to the goal by that, neither does.")
    static void oneAtTheGoalByTwoTouches() {
        for (int side = 0; side < 2; side++) {
            Hall x = onPiste(EPEE);
            touches(x, side, 2);
            touch(x, 1 - side);
            dueScore(x, 0, side == 0 ? 2 : 1, side == 0 ? 1 : 2, NONE);
            is("just one would come to the goal", both(x), 3);
            dueScore(x, 0, side == 0 ? 3 : 2, side == 0 ? 2 : 3, side);
            Hall y = onFinal(EPEE);
            touches(y, side, 4);
            touches(y, 1 - side, 3);
            both(y);
            dueScore(y, 101, side == 0 ? 5 : 4, side == 0 ? 4 : 5, side);
        }
    }

    @Sentence("Its phrases are gone through in order: each touch that is not struck makes the score of its side 1 more; "
        + "but if both sides have one, and both would come to the goal by that, neither does.")
    static void struckOfTwoAtTheGoal() {
        for (int side = 0; side < 2; side++) {
            Hall x = onPiste(EPEE);
            both(x);
            both(x);
            x.change(side, spare(x, side));
            both(x);
            dueScore(x, 0, 2, 2, NONE);
            // The third phrase has just the touch of the other side left, which comes to the goal.
            x.test(x.weaponOf(side), 0, 0);
            is("touches of the third", x.touches(0, 2), 2 - side);
            dueScore(x, 0, side == 0 ? 2 : 3, side == 0 ? 3 : 2, 1 - side);
        }
    }

    @Sentence("The goal is 3 in a pool, and 5 in the tableau.")
    static void goals() {
        for (int side = 0; side < 2; side++) {
            Hall x = onPiste(EPEE);
            touches(x, side, 2);
            is("open at 2", x.winner(0), NONE);
            touch(x, side);
            dueScore(x, 0, side == 0 ? 3 : 0, side == 0 ? 0 : 3, side);
            Hall y = onFinal(EPEE);
            touches(y, side, 3);
            is("open at 3 in the tableau", y.winner(101), NONE);
            touch(y, side);
            is("open at 4 in the tableau", y.winner(101), NONE);
            touch(y, side);
            dueScore(y, 101, side == 0 ? 5 : 0, side == 0 ? 0 : 5, side);
        }
    }

    @Sentence("The bout is decided as soon as a side has come to the goal, and that side is the winner; phrases behind "
        + "that do not count.")
    static void phrasesBehindTheDecision() {
        for (int side = 0; side < 2; side++) {
            Hall x = onPiste(EPEE);
            both(x);
            both(x);
            both(x);
            x.change(side, spare(x, side));
            touch(x, side);
            dueScore(x, 0, side == 0 ? 3 : 2, side == 0 ? 2 : 3, side);
            // The third touch of the other side stands alone now, and decides the bout there.
            x.test(side, 2000, 0);
            is("touches of the fourth", x.touches(0, 3), 1 + side);
            dueScore(x, 0, side == 0 ? 0 : 3, side == 0 ? 3 : 0, 1 - side);
            is("phrases() tells of it", x.phrases(0), 4);
            refused(x, "a fifth phrase", STATE, Hall::allez);
            int used = x.appeals(0, side);
            is("an appeal as to the latest one", x.appeal(side, NONE), 1 + side);
            is("uses it up", x.appeals(0, side), used - 1);
        }
    }

    @Sentence("Otherwise it is open.")
    static void openOtherwise() {
        Hall x = onPiste(EPEE);
        is("without phrases", x.winner(0), NONE);
        both(x);
        both(x);
        both(x);
        is("at 2 to 2", x.winner(0), NONE);
        emptyPhrases(x, 8);
        is("with 11 phrases", x.winner(0), NONE);
        is("it can begin anew", x.begin(0, 0, 1), 11);
        x.allez();
        is("in the twelfth", x.winner(0), NONE);
        Hall y = onFinal(EPEE);
        is("without phrases in the tableau", y.winner(101), NONE);
        touches(y, 0, 4);
        touches(y, 1, 4);
        is("at 4 to 4", y.winner(101), NONE);
        emptyPhrases(y, 3);
        is("with 11 phrases in the tableau", y.winner(101), NONE);
        is("nor has the node a winner", y.nodeWinner(1), NONE);
    }

    @Sentence("If it has 12 phrases, and no side has come to the goal, it is decided, too, and the side with the greater "
        + "score is the winner, of the same scores the side 0.")
    static void decidedByTwelvePhrases() {
        int[][] rows = {{0, 0, 0}, {1, 0, 0}, {0, 1, 1}, {1, 1, 0}, {2, 1, 0}, {1, 2, 1}, {2, 2, 0}, {0, 2, 1}};
        for (int[] row : rows) {
            Hall x = onPiste(EPEE);
            touches(x, 0, row[0]);
            touches(x, 1, row[1]);
            emptyPhrases(x, 11 - row[0] - row[1]);
            dueScore(x, 0, row[0], row[1], NONE);
            is("it can begin anew with 11", x.begin(0, 0, 1), 11);
            emptyPhrases(x, 1);
            dueScore(x, 0, row[0], row[1], row[2]);
            refused(x, "allez() behind 12", STATE, Hall::allez);
            refused(x, "begin() behind 12", STATE, h -> h.begin(0, 0, 1));
            Hall y = onFinal(EPEE);
            touches(y, 0, row[0] + 2);
            touches(y, 1, row[1] + 2);
            emptyPhrases(y, 7 - row[0] - row[1]);
            dueScore(y, 101, row[0] + 2, row[1] + 2, NONE);
            emptyPhrases(y, 1);
            dueScore(y, 101, row[0] + 2, row[1] + 2, row[2]);
            is("nodeWinner(1)", y.nodeWinner(1), row[2]);
        }
    }

    @Sentence("If it has 12 phrases, and no side has come to the goal, it is decided, too, and the side with the greater "
        + "score is the winner, of the same scores the side 0.")
    static void goalInTheTwelfth() {
        Hall x = onPiste(EPEE);
        touches(x, 0, 2);
        touches(x, 1, 2);
        emptyPhrases(x, 7);
        touch(x, 1);
        dueScore(x, 0, 2, 3, 1);
        Hall y = onPiste(EPEE);
        both(y);
        both(y);
        emptyPhrases(y, 9);
        is("both would come to the goal in the twelfth", both(y), 3);
        dueScore(y, 0, 2, 2, 0);
        Hall z = onPiste(EPEE);
        touch(z, 1);
        emptyPhrases(z, 11);
        is("the side 1 has won", z.winner(0), 1);
        z.test(1, 0, 0);
        // It stays decided, as it has 12 phrases, but by other scores.
        dueScore(z, 0, 0, 0, 0);
        refused(z, "another phrase", STATE, Hall::allez);
    }

    // ---- promise 18

    @Sentence("18: Returns the fencer of a side of a bout.")
    static void fencersOfBouts() {
        Hall x = hall(EPEE, 3);
        x.drawPools(1);
        is("side 0 of 1", x.fencerOf(1, 0), 0);
        is("side 1 of 1", x.fencerOf(1, 1), 2);
        Hall y = drawn(4);
        is("side 0 of 102", y.fencerOf(102, 0), 0);
        is("side 1 of 102", y.fencerOf(102, 1), 3);
        is("side 0 of 103", y.fencerOf(103, 0), 1);
        is("side 1 of 103", y.fencerOf(103, 1), 2);
        is("side 1 of a pool's, from the tableau", y.fencerOf(1, 1), 3);
    }

    @Sentence("18: Returns the fencer; NONE if it is nobody, or not known.")
    static void fencersNobodyOrNotKnown() {
        Hall y = drawn(5);
        is("known, the other one is nobody", y.fencerOf(104, 0), 0);
        is("nobody", y.fencerOf(104, 1), NONE);
        is("known without a bout", y.fencerOf(102, 0), 0);
        is("not known", y.fencerOf(102, 1), NONE);
        is("neither known", y.fencerOf(101, 0), NONE);
        is("neither known", y.fencerOf(101, 1), NONE);
        win(y, 105, 1);
        is("known then", y.fencerOf(102, 1), 4);
    }

    // ---- bouts, sides and phrases that there are not

    @Sentence({"18: Throws IndexOutOfBoundsException if there is no such bout or side",
        "18: bout: a bout of a pool, or 100 and a node of the tableau below its size, together", "18: side: 0 or 1"})
    static void fencerOfNoBoutOrSide() {
        noBoutOrSide((h, bout, side) -> h.fencerOf(bout, side));
    }

    @Sentence({"19: Throws IndexOutOfBoundsException if there is no such bout or side", "19: bout: as told at fencerOf()",
        "19: side: 0 or 1"})
    static void scoreOfNoBoutOrSide() {
        noBoutOrSide((h, bout, side) -> h.score(bout, side));
    }

    @Sentence({"20: Throws IndexOutOfBoundsException if there is no such bout or side", "20: bout: as told at fencerOf()",
        "20: side: 0 or 1"})
    static void scoreAnewOfNoBoutOrSide() {
        noBoutOrSide((h, bout, side) -> h.scoreAnew(bout, side));
    }

    @Sentence({"24: Throws IndexOutOfBoundsException if there is no such bout or side", "24: bout: as told at fencerOf()",
        "24: side: 0 or 1"})
    static void appealsOfNoBoutOrSide() {
        noBoutOrSide((h, bout, side) -> h.appeals(bout, side));
    }

    @Sentence({"21: Throws IndexOutOfBoundsException if there is no such bout", "21: bout: as told at fencerOf()"})
    static void winnerOfNoBout() {
        noBout((h, bout, side) -> h.winner(bout));
    }

    @Sentence({"22: Throws IndexOutOfBoundsException if there is no such bout", "22: bout: as told at fencerOf()"})
    static void phrasesOfNoBout() {
        noBout((h, bout, side) -> h.phrases(bout));
    }

    @Sentence({"23: Throws IndexOutOfBoundsException if there is no such bout, or phrase",
        "23: bout: as told at fencerOf()", "23: phrase: a phrase that has ended"})
    static void touchesOfNoBoutOrPhrase() {
        noBout((h, bout, side) -> h.touches(bout, 0));
        Hall x = onPiste(EPEE);
        refused(x, "the phrase 0 of none", INDEX, h -> h.touches(0, 0));
        x.allez();
        x.contact(0, true, 0);
        refused(x, "the phrase 0 that is on", INDEX, h -> h.touches(0, 0));
        x.halt();
        is("the phrase 0 that has ended", x.touches(0, 0), 1);
        x.allez();
        for (int phrase : new int[] {1, 2, 11, 12, -1, MAX, MIN}) {
            refused(x, "the phrase " + phrase, INDEX, h -> h.touches(0, phrase));
        }
        x.halt();
        emptyPhrases(x, 10);
        is("the phrase 11 of 12", x.touches(0, 11), 0);
        refused(x, "the phrase 12 of 12", INDEX, h -> h.touches(0, 12));
    }

    private interface OfBout {
        long of(Hall hall, int bout, int side);
    }

    private static void noBoutOrSide(OfBout asked) {
        noBout(asked);
        Hall x = hall(EPEE, 3);
        x.drawPools(1);
        Hall y = drawn(3);
        for (int side : NO_SIDES) {
            refused(x, "side " + side, INDEX, h -> asked.of(h, 0, side));
            refused(y, "side " + side + " in the tableau", INDEX, h -> asked.of(h, 103, side));
            refused(y, "side " + side + " of no bout", INDEX, h -> asked.of(h, 104, side));
        }
    }

    private static void noBout(OfBout asked) {
        Hall none = hall(EPEE, 2);
        refused(none, "bout 0 ahead of the pools", INDEX, h -> asked.of(h, 0, 0));
        Hall pools = hall(EPEE, 12);
        pools.drawPools(1);
        int[] notInPools = {-1, 66, 67, 99, 100, 101, 115, 116, MAX, MIN};
        for (int bout : notInPools) {
            refused(pools, "bout " + bout + " of the pools", INDEX, h -> asked.of(h, bout, 0));
        }
        Hall small = drawn(2);
        for (int bout : new int[] {-1, 1, 99, 100, 102, 103, MAX, MIN, -101, MIN + 101}) {
            refused(small, "bout " + bout + " at the size 2", INDEX, h -> asked.of(h, bout, 0));
        }
        Hall great = drawn(9);
        for (int bout : new int[] {great.poolBouts(), 100, 116, 117, 131, 132}) {
            refused(great, "bout " + bout + " at the size 16", INDEX, h -> asked.of(h, bout, 0));
        }
    }

    // ---- promises 19 to 23

    @Sentence({"19: Returns the score of a side of a bout, as it is kept.",
        "20: Returns the same, from the raw contacts of all phrases."})
    static void scoresTold() {
        Hall x = onPiste(FOIL);
        touch(x, 0);
        touch(x, 1);
        touch(x, 1);
        dueScore(x, 0, 1, 2, NONE);
        x.allez();
        x.contact(1, true, 0);
        dueScore(x, 0, 1, 2, NONE);
        x.halt();
        dueScore(x, 0, 1, 3, 1);
        is("the bench changes nothing here", x.appeal(0, 0), 2);
        dueScore(x, 0, 1, 3, 1);
        x.test(1, 0, 0);
        dueScore(x, 0, 1, 0, NONE);
    }

    @Sentence("21: Returns the winner of a bout, or of its node.")
    static void winnersTold() {
        Hall x = hall(EPEE, 3);
        x.drawPools(1);
        is("open", x.winner(2), NONE);
        win(x, 2, 1);
        is("of the side 1", x.winner(2), 2);
        win(x, 0, 1);
        is("of another one", x.winner(0), 1);
        win(x, 1, 0);
        is("of the side 0", x.winner(1), 0);
        Hall y = drawn(5);
        is("of a node without a bout", y.winner(104), 0);
        win(y, 103, 1);
        is("of a node with a bout", y.winner(103), 2);
    }

    @Sentence("21: Returns the fencer; NONE if it is open, or not known.")
    static void winnersOpenOrNotKnown() {
        Hall x = onPiste(EPEE);
        is("open", x.winner(0), NONE);
        touches(x, 1, 2);
        is("still open", x.winner(0), NONE);
        touch(x, 1);
        is("decided", x.winner(0), 1);
        x.test(1, 0, 0);
        is("open again", x.winner(0), NONE);
        Hall y = drawn(5);
        is("open in the tableau", y.winner(103), NONE);
        is("a side is not known", y.winner(102), NONE);
        is("no side is known", y.winner(101), NONE);
        win(y, 103, 1);
        is("one of them is known", y.winner(101), NONE);
        y.test(2, 0, 0);
        is("open again in the tableau", y.winner(103), NONE);
    }

    @Sentence("22: Returns how many phrases of a bout have ended.")
    static void phrasesTold() {
        Hall x = onPiste(EPEE);
        is("of none", x.phrases(0), 0);
        x.allez();
        is("not the one that is on", x.phrases(0), 0);
        x.halt();
        is("of one", x.phrases(0), 1);
        emptyPhrases(x, 10);
        x.allez();
        is("not the twelfth that is on", x.phrases(0), 11);
        is("nor is it decided by that", x.winner(0), NONE);
        x.halt();
        is("of 12", x.phrases(0), 12);
        Hall y = drawn(3);
        is("without a bout", y.phrases(102), 0);
        is("not known", y.phrases(101), 0);
        is("in a pool, from the tableau", y.phrases(0), 3);
    }

    @Sentence({"23: Returns the touches of a phrase that are not struck.", "23: Returns as by halt()."})
    static void touchesTold() {
        Hall x = onPiste(EPEE);
        int[] wants = {phrase(x, "0-5"), phrase(x, "0+5"), phrase(x, "0+5 1+5"), phrase(x, "1+5")};
        for (int i = 0; i < wants.length; i++) {
            is("the phrase " + i, wants[i], new int[] {0, 1, 3, 2}[i]);
            is("the same of it", x.touches(0, i), wants[i]);
        }
        x.test(0, 0, 0);
        is("none", x.touches(0, 0), 0);
        is("struck", x.touches(0, 1), 0);
        is("one struck of two", x.touches(0, 2), 2);
        is("not struck", x.touches(0, 3), 2);
    }
}
