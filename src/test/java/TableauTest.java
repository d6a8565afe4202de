import java.util.ArrayList;
import java.util.List;

/** The sentences on the tableau: promises 30 to 33. */
public final class TableauTest extends Edges {
    private static final int[][] ROWS = {
        {1, 2}, {1, 4, 2, 3}, {1, 8, 4, 5, 2, 7, 3, 6}, {1, 16, 8, 9, 4, 13, 5, 12, 2, 15, 7, 10, 3, 14, 6, 11},
    };

    public static void main(String[] args) {
        run(TableauTest.class);
    }

    private static int[] rowOf(int fencers) {
        return ROWS[fencers <= 2 ? 0 : fencers <= 4 ? 1 : fencers <= 8 ? 2 : 3];
    }

    // ---- promises 30 and 31

    @Sentence("The tableau is drawn when all bouts of the pools are decided.")
    static void drawnWhenAllAreDecided() {
        for (int last = 0; last < 6; last++) {
            Hall x = hall(EPEE, 4);
            x.drawPools(1);
            for (int bout = 0; bout < 6; bout++) {
                if (bout != last) {
                    win(x, bout, 0);
                }
            }
            refused(x, "all but the bout " + last, STATE, Hall::drawTableau);
            begin(x, last);
            touches(x, 1, 2);
            refused(x, "the bout " + last + " has begun", STATE, Hall::drawTableau);
            touch(x, 1);
            is("all are decided", x.drawTableau(), 4);
        }
    }

    @Sentence("30: Throws IllegalStateException if the pools are not drawn, a bout of them is open, the tableau is drawn, "
        + "or a phrase is on")
    static void drawTableauAtAWrongTime() {
        refused(Recorder.hall(EPEE), "in a new hall", STATE, Hall::drawTableau);
        refused(hall(EPEE, 3), "the pools are not drawn", STATE, Hall::drawTableau);
        for (int open = 0; open < 3; open++) {
            Hall x = hall(EPEE, 3);
            x.drawPools(1);
            refused(x, "all bouts are open", STATE, Hall::drawTableau);
            for (int bout = 0; bout < 3; bout++) {
                if (bout != open) {
                    win(x, bout, 0);
                }
            }
            refused(x, "just the bout " + open + " is open", STATE, Hall::drawTableau);
            begin(x, open);
            touches(x, 0, 2);
            x.allez();
            x.contact(0, true, 1);
            refused(x, "a phrase is on", STATE, Hall::drawTableau);
            x.halt();
            is("drawTableau()", x.drawTableau(), 4);
            refused(x, "it is drawn", STATE, Hall::drawTableau);
            begin(x, 103);
            x.allez();
            refused(x, "it is drawn, and a phrase is on", STATE, Hall::drawTableau);
        }
        Hall y = poolsFenced(EPEE, 4);
        y.test(1, 0, 0);
        refused(y, "a bout is open again", STATE, Hall::drawTableau);
        Hall z = onPiste(EPEE);
        emptyPhrases(z, 11);
        refused(z, "open with 11 phrases", STATE, Hall::drawTableau);
        emptyPhrases(z, 1);
        is("decided by 12", z.drawTableau(), 2);
    }

    @Sentence({"Its size is the least of 2, 4, 8 and 16 that is not less than the number of fencers.",
        "30: Returns its size."})
    static void sizes() {
        int[] sizes = {0, 0, 2, 4, 4, 8, 8, 8, 8, 16, 16, 16, 16};
        for (int fencers = 2; fencers <= 12; fencers++) {
            Hall x = poolsFenced(EPEE, fencers);
            is("drawTableau() of " + fencers, x.drawTableau(), sizes[fencers]);
            is("size() of " + fencers, x.size(), sizes[fencers]);
        }
    }

    @Sentence("31: Returns the size of the tableau; 0 if it is not drawn.")
    static void sizeTold() {
        is("of a new hall", Recorder.hall(EPEE).size(), 0);
        Hall x = hall(EPEE, 9);
        is("of fencers alone", x.size(), 0);
        x.drawPools(4);
        is("of pools", x.size(), 0);
        refused(x, "drawTableau() that is refused", STATE, Hall::drawTableau);
        Hall y = poolsFenced(EPEE, 9);
        is("of pools that are decided", y.size(), 0);
        y.drawTableau();
        is("of the tableau", y.size(), 16);
        win(y, 109, 1);
        is("still", y.size(), 16);
    }

    @Sentence("30: Draws the tableau; the piste is empty then.")
    static void thePisteIsEmptyThen() {
        Hall x = poolsFenced(EPEE, 3);
        is("a decided bout is on the piste", x.piste(), 2);
        x.drawTableau();
        dueEmptyPiste(x);
        refused(x, "allez()", STATE, Hall::allez);
        refused(x, "appeal()", STATE, h -> h.appeal(0, 0));
        refused(x, "change()", STATE, h -> h.change(0, 0));
    }

    // ---- seeds

    @Sentence("The place of a fencer in the ranks, counted from 1 on, is the seed.")
    static void placesAreSeeds() {
        Hall x = hall(EPEE, 4);
        x.drawPools(1);
        for (int bout = 0; bout < 6; bout++) {
            win(x, bout, 1);
        }
        dueRanks(x, 3, 2, 1, 0);
        x.drawTableau();
        int[] leaves = {3, 0, 2, 1};
        for (int i = 0; i < 4; i++) {
            is("nodeWinner(" + (4 + i) + ")", x.nodeWinner(4 + i), leaves[i]);
        }
        x.test(3, 0, 0);
        is("the seeds stand, whatever fails then", x.nodeWinner(4), 3);
    }

    @Sentence("The seeds are laid in a row: at the size 2 it is 1, 2; at twice a size n it is that of the size n, with "
        + "each seed s in it followed by 2 * n + 1 - s.")
    static void rowsTwiceTheSize() {
        List<Integer> row = new ArrayList<>(List.of(1, 2));
        for (int fencers : new int[] {2, 4, 8, 12}) {
            Hall x = drawn(fencers);
            for (int i = 0; i < row.size(); i++) {
                int want = row.get(i) <= fencers ? row.get(i) - 1 : NONE;
                is("the seed " + i + " of " + fencers, x.nodeWinner(row.size() + i), want);
            }
            List<Integer> twice = new ArrayList<>();
            for (int seed : row) {
                twice.add(seed);
                twice.add(2 * row.size() + 1 - seed);
            }
            row = twice;
        }
    }

    @Sentence("A seed that is greater than the number of fencers is nobody.")
    static void seedsThatAreNobody() {
        for (int fencers = 2; fencers <= 12; fencers++) {
            Hall x = drawn(fencers);
            int nobodies = 0;
            for (int node = x.size(); node < 2 * x.size(); node++) {
                nobodies += x.nodeWinner(node) == NONE ? 1 : 0;
            }
            is("nobodies beside " + fencers, nobodies, x.size() - fencers);
        }
        Hall three = drawn(3);
        is("the seed 4 of three", three.nodeWinner(5), NONE);
        is("the seed 3 of three", three.nodeWinner(7), 2);
        is("nobody in its bout", three.fencerOf(102, 1), NONE);
        refused(three, "a bout with nobody", STATE, h -> h.begin(102, 0, 1));
        Hall four = drawn(4);
        is("the seed 4 of four", four.nodeWinner(5), 3);
        is("somebody in its bout", four.fencerOf(102, 1), 3);
    }

    @Sentence("At the nodes from the size on are the seeds of the row, in its order.")
    static void seedsAtTheNodes() {
        for (int fencers = 2; fencers <= 12; fencers++) {
            Hall x = drawn(fencers);
            int[] row = rowOf(fencers);
            for (int i = 0; i < row.length; i++) {
                int want = row[i] > fencers ? NONE : row[i] - 1;
                is("nodeWinner(" + (row.length + i) + ") of " + fencers, x.nodeWinner(row.length + i), want);
            }
        }
    }

    // ---- nodes

    @Sentence("The tableau has the nodes 1 to twice the size less 1.")
    static void nodesThatThereAre() {
        for (int fencers = 2; fencers <= 12; fencers++) {
            Hall x = drawn(fencers);
            int count = 0;
            for (int node = -1; node <= 40; node++) {
                int asked = node;
                boolean isThere = !Ask.answer(x, h -> h.nodeWinner(asked)).equals(INDEX.getSimpleName());
                is("the node " + node + " of " + fencers, isThere, node >= 1 && node < 2 * x.size());
                count += isThere ? 1 : 0;
            }
            is("nodes of " + fencers, count, 2 * x.size() - 1);
        }
    }

    @Sentence({"32: Throws IndexOutOfBoundsException if there is no such node", "32: node: 1 to twice the size less 1"})
    static void nodesThatThereAreNot() {
        Hall none = poolsFenced(EPEE, 2);
        for (int node : new int[] {-1, 0, 1, 2, 3, MAX, MIN}) {
            refused(none, "node " + node + " ahead of the drawing", INDEX, h -> h.nodeWinner(node));
        }
        for (int fencers : new int[] {2, 3, 4, 5, 8, 9, 12}) {
            Hall x = drawn(fencers);
            int size = x.size();
            for (int node : new int[] {0, -1, 2 * size, 2 * size + 1, 32, MAX, MIN}) {
                refused(x, "node " + node + " of " + fencers, INDEX, h -> h.nodeWinner(node));
            }
            is("the node 1 of " + fencers, x.nodeWinner(1), NONE);
            int last = rowOf(fencers)[size - 1];
            is("the last node of " + fencers, x.nodeWinner(2 * size - 1), last > fencers ? NONE : last - 1);
        }
    }

    @Sentence("The bout of the node k has the number 100 and k, together.")
    static void numbersOfBouts() {
        for (int fencers : new int[] {2, 3, 4, 5, 8, 9, 12}) {
            Hall x = drawn(fencers);
            int size = x.size();
            for (int bout : new int[] {99, 100, 100 + size, 99 + 2 * size}) {
                refused(x, "the bout " + bout + " of " + fencers, INDEX, h -> h.phrases(bout));
            }
            for (int node = 1; node < size; node++) {
                is("the bout of the node " + node, x.phrases(100 + node), 0);
            }
        }
        Hall four = drawn(4);
        win(four, 103, 1);
        is("won by the winner of the node 3", four.nodeWinner(3), 2);
        is("not of the node 2", four.nodeWinner(2), NONE);
        is("the bout of the pool with a low number stands", four.phrases(1), 3);
    }

    @Sentence("A node k below the size has two sides: the side 0 is the winner of the node 2 * k, the side 1 that of the "
        + "node 2 * k + 1; the winner of a node from the size on is the one who is there.")
    static void sidesOfNodes() {
        for (int fencers = 2; fencers <= 12; fencers++) {
            Hall x = drawn(fencers);
            Hall asked = Recorder.of(x).real();
            for (int bout = 99 + asked.size(); bout > 100; bout--) {
                dueSides(x);
                if (asked.fencerOf(bout, 0) != NONE && asked.fencerOf(bout, 1) != NONE) {
                    win(x, bout, bout % 2);
                    is("winner(" + bout + ")", asked.winner(bout), asked.fencerOf(bout, bout % 2));
                }
            }
            dueSides(x);
        }
    }

    private static void dueSides(Hall recorded) {
        Hall x = Recorder.of(recorded).real();
        for (int node = 1; node < x.size(); node++) {
            is("side 0 of " + node, x.fencerOf(100 + node, 0), x.nodeWinner(2 * node));
            is("side 1 of " + node, x.fencerOf(100 + node, 1), x.nodeWinner(2 * node + 1));
            is("the winner of " + node, x.winner(100 + node), x.nodeWinner(node));
        }
    }

    @Sentence("32: Returns the winner of a node.")
    static void nodeWinnersTold() {
        Hall x = drawn(4);
        is("of a node with a seed", x.nodeWinner(5), 3);
        win(x, 102, 1);
        is("of a bout", x.nodeWinner(2), 3);
        win(x, 103, 0);
        win(x, 101, 0);
        is("of the last one", x.nodeWinner(1), 3);
    }

    @Sentence("32: Returns the fencer; NONE if it is nobody, or not known.")
    static void nodeWinnersNobodyOrNotKnown() {
        Hall x = drawn(5);
        is("nobody", x.nodeWinner(9), NONE);
        is("nobody at the last node", x.nodeWinner(15), NONE);
        is("somebody without a bout", x.nodeWinner(7), 2);
        is("not known", x.nodeWinner(5), NONE);
        win(x, 105, 0);
        is("known", x.nodeWinner(5), 3);
        is("not known above", x.nodeWinner(2), NONE);
        is("not known further above", x.nodeWinner(1), NONE);
        x.test(3, 0, 0);
        is("not known any more", x.nodeWinner(5), NONE);
    }

    @Sentence("If just one side of a node is nobody, the other one is the winner of the node without a bout; otherwise it "
        + "is the winner of its bout, when that is decided.")
    static void winnersWithoutABout() {
        for (int fencers = 2; fencers <= 12; fencers++) {
            Hall x = drawn(fencers);
            int[] row = rowOf(fencers);
            int size = row.length;
            for (int node = size / 2; node < size; node++) {
                boolean hasNobody = row[2 * node - size + 1] > fencers;
                int want = hasNobody ? row[2 * node - size] - 1 : NONE;
                is("nodeWinner(" + node + ") of " + fencers, x.nodeWinner(node), want);
                is("winner(" + (100 + node) + ") of " + fencers, x.winner(100 + node), want);
                is("phrases(" + (100 + node) + ") of " + fencers, x.phrases(100 + node), 0);
            }
            for (int node = 1; node < size / 2; node++) {
                is("nodeWinner(" + node + ") of " + fencers, x.nodeWinner(node), NONE);
            }
        }
    }

    @Sentence("If just one side of a node is nobody, the other one is the winner of the node without a bout; otherwise it "
        + "is the winner of its bout, when that is decided.")
    static void notKnownIsNotNobody() {
        Hall x = drawn(8);
        win(x, 106, 0);
        is("the one side", x.fencerOf(103, 0), 1);
        is("not yet the other one", x.fencerOf(103, 1), NONE);
        is("no winner without the bout", x.nodeWinner(3), NONE);
        is("nor told by it", x.winner(103), NONE);
        win(x, 107, 1);
        is("nor with both known", x.nodeWinner(3), NONE);
        is("both are known", x.fencerOf(103, 1), 5);
        begin(x, 103);
        touches(x, 1, 4);
        is("nor with 4 touches", x.nodeWinner(3), NONE);
        touch(x, 1);
        is("but when it is decided", x.nodeWinner(3), 5);
        is("and in the node above", x.fencerOf(101, 1), 5);
        Hall y = drawn(3);
        win(y, 103, 1);
        is("of the side 0 alone", y.nodeWinner(2), 0);
        is("of its bout", y.nodeWinner(3), 2);
        is("the node 1 needs a bout", y.nodeWinner(1), NONE);
    }

    @Sentence("The winner of the node 1 has won the tableau.")
    static void theTableauIsWon() {
        Hall x = drawn(5);
        win(x, 105, 1);
        win(x, 103, 0);
        win(x, 102, 1);
        is("not yet", x.nodeWinner(1), NONE);
        win(x, 101, 0);
        is("nodeWinner(1)", x.nodeWinner(1), 4);
        is("winner(101)", x.winner(101), 4);
        is("none is gone", x.gone(), 0);
        Hall y = drawn(2);
        win(y, 101, 1);
        is("of two", y.nodeWinner(1), 1);
        y.test(1, 0, 0);
        is("open again", y.nodeWinner(1), NONE);
        is("the phrases stay", y.phrases(101), 5);
        is("nothing rested on it", y.gone(), 0);
        is("it stays on the piste", y.piste(), 101);
        y.change(1, spare(y, 1));
        touches(y, 0, 5);
        dueScore(y, 101, 5, 0, 0);
    }

    // ---- bouts that are gone

    /** Two bouts below the final, won by their sides 0; the final is on the piste with a phrase. */
    private static Hall inTheFinal() {
        Hall x = drawn(4);
        win(x, 102, 0);
        win(x, 103, 0);
        begin(x, 101);
        touch(x, 1);
        return x;
    }

    private static final String GONE = "If the winner of a node becomes another one, or is not known any more, the bout "
        + "of the node above is gone with all its phrases and appeals, and comes anew when both sides are known again; if "
        + "it was on the piste, that is empty then.";

    @Sentence(GONE)
    static void winnerNotKnownAnyMore() {
        for (int side = 0; side < 2; side++) {
            Hall x = inTheFinal();
            is("a fruitless appeal", x.appeal(0, 0), 2);
            is("another one", x.appeal(1, 0), 2);
            x.test(side, 0, 0);
            is("it is not known", x.nodeWinner(2 + side), NONE);
            is("the other one is", x.nodeWinner(3 - side), 1 - side);
            is("nor is its side above", x.fencerOf(101, side), NONE);
            is("the other one's is", x.fencerOf(101, 1 - side), 1 - side);
            dueUnfenced(x, 101);
            is("its own bout keeps its phrases", x.phrases(102 + side), 5);
            dueScore(x, 102 + side, 0, 0, NONE);
            dueEmptyPiste(x);
            is("gone()", x.gone(), 1);
            refused(x, "begin() of the one that is gone", STATE, h -> h.begin(101, 0, 1));
            refused(x, "touches() of the one that is gone", INDEX, h -> h.touches(101, 0));
        }
    }

    @Sentence(GONE)
    static void whoeverTheWinnerWas() {
        for (int f = 0; f < 4; f++) {
            Hall x = drawn(4);
            int bout = f == 0 || f == 3 ? 102 : 103;
            win(x, 102, f == 3 ? 1 : 0);
            win(x, 103, f == 2 ? 1 : 0);
            begin(x, 101);
            touch(x, 0);
            is("the winner", x.winner(bout), f);
            x.test(f, 0, 0);
            is("not known any more", x.winner(bout), NONE);
            dueUnfenced(x, 101);
            dueEmptyPiste(x);
            is("gone() behind " + f, x.gone(), 1);
        }
    }

    @Sentence(GONE)
    static void comesAnew() {
        Hall x = inTheFinal();
        is("a fruitless appeal", x.appeal(1, 0), 2);
        x.test(0, 0, 0);
        int spare = spare(x, 0);
        x.begin(102, spare, 3);
        touches(x, 0, 4);
        is("not known yet", x.fencerOf(101, 0), NONE);
        touch(x, 0);
        is("known again", x.fencerOf(101, 0), 0);
        dueUnfenced(x, 101);
        is("begin()", x.begin(101, spare, 1), 0);
        is("allez()", x.allez(), 0);
        x.halt();
        touches(x, 0, 5);
        dueScore(x, 101, 5, 0, 0);
        is("gone()", x.gone(), 1);
        Hall y = inTheFinal();
        y.test(0, 0, 0);
        y.begin(102, spare(y, 0), 3);
        touches(y, 1, 5);
        is("another one comes", y.fencerOf(101, 0), 3);
        is("with the weapon of that one", y.begin(101, 3, 1), 0);
        is("gone() once", y.gone(), 1);
    }

    @Sentence(GONE)
    static void winnerBecomesAnotherOne() {
        Hall x = drawn(4);
        win(x, 103, 0);
        int other = spare(x, 0);
        // 4 to 4, one more of both, which doesn't count, and one of the side 0 with another weapon.
        x.begin(102, other, 3);
        for (int i = 0; i < 5; i++) {
            both(x);
        }
        x.change(0, 0);
        touch(x, 0);
        dueScore(x, 102, 5, 4, 0);
        begin(x, 101);
        touch(x, 0);
        is("a fruitless appeal", x.appeal(0, 0), 1);
        x.test(other, 0, 0);
        dueScore(x, 102, 0, 5, 3);
        is("another one at once", x.fencerOf(101, 0), 3);
        dueUnfenced(x, 101);
        dueEmptyPiste(x);
        is("gone()", x.gone(), 1);
        refused(x, "with the weapon of the one before", STATE, h -> h.begin(101, 0, 1));
        is("with that of the other one", x.begin(101, 3, 1), 0);
    }

    @Sentence(GONE)
    static void winnerThatStays() {
        Hall x = inTheFinal();
        x.test(3, 0, 0);
        x.test(2, 0, 0);
        is("those who lost have no touches to strike", x.nodeWinner(2), 0);
        is("nothing is gone", x.gone(), 0);
        is("it stays on the piste", x.piste(), 101);
        is("with its phrase", x.phrases(101), 1);
        is("an appeal is still open", x.appeal(0, 0), 2);
        Hall y = drawn(4);
        win(y, 103, 0);
        begin(y, 102);
        touch(y, 1);
        y.change(1, spare(y, 3));
        touches(y, 0, 5);
        begin(y, 101);
        touch(y, 0);
        y.test(3, 0, 0);
        is("a struck touch", y.touches(102, 0), 0);
        dueScore(y, 102, 5, 0, 0);
        is("of the same winner", y.phrases(101), 1);
        is("nothing is gone then", y.gone(), 0);
    }

    @Sentence(GONE)
    static void anotherBoutStaysOnThePiste() {
        Hall x = drawn(8);
        win(x, 104, 0);
        win(x, 105, 0);
        begin(x, 102);
        touch(x, 0);
        begin(x, 106);
        touch(x, 1);
        x.test(0, 0, 0);
        is("102 is gone", x.phrases(102), 0);
        is("gone()", x.gone(), 1);
        is("piste()", x.piste(), 106);
        is("weaponOf(0)", x.weaponOf(0), 1);
        is("weaponOf(1)", x.weaponOf(1), 6);
        is("an appeal is still open", x.appeal(0, 0), 2);
        is("it goes on", x.allez(), 1);
    }

    @Sentence(GONE)
    static void goneByTheBench() {
        Hall x = drawn(FOIL, 4);
        win(x, 103, 0);
        begin(x, 102);
        touches(x, 0, 4);
        bothWithRight(x, 0);
        is("known", x.fencerOf(101, 0), 0);
        is("the bench takes it back", x.appeal(1, 1), 2);
        dueScore(x, 102, 4, 1, NONE);
        is("not known any more", x.fencerOf(101, 0), NONE);
        is("this one stays on the piste", x.piste(), 102);
        is("it had no phrases", x.gone(), 0);
        is("and gives it again", x.appeal(0, 0), 1);
        is("known again", x.fencerOf(101, 0), 0);
    }

    /** Three levels of bouts above a first one; the final is on the piste with a phrase. */
    private static Hall threeLevels() {
        Hall x = drawn(12);
        for (int bout : new int[] {109, 111, 113, 115, 104, 105, 106, 107, 102, 103}) {
            win(x, bout, bout == 104 ? 1 : 0);
        }
        begin(x, 101);
        touch(x, 0);
        return x;
    }

    @Sentence("Likewise for nodes further above.")
    static void nodesFurtherAbove() {
        Hall x = threeLevels();
        is("the seed 8 has won 109", x.winner(109), 7);
        is("and 104", x.winner(104), 7);
        is("and 102", x.winner(102), 7);
        x.test(7, 0, 0);
        is("109 is open", x.winner(109), NONE);
        is("109 keeps its phrases", x.phrases(109), 5);
        for (int bout : new int[] {104, 102, 101}) {
            dueUnfenced(x, bout);
            is("winner(" + bout + ")", x.winner(bout), NONE);
        }
        is("side 0 of 102", x.fencerOf(102, 0), NONE);
        is("side 0 of 101", x.fencerOf(101, 0), NONE);
        is("side 1 of 101", x.fencerOf(101, 1), 1);
        is("103 stays", x.phrases(103), 5);
        is("105 stays", x.phrases(105), 5);
        dueEmptyPiste(x);
        is("gone()", x.gone(), 3);
        x.test(1, 0, 0);
        // The fencer 1 came to 106 without a bout: that bout itself is open again, 103 is gone.
        is("106 is open", x.winner(106), NONE);
        is("103 is gone", x.phrases(103), 0);
        is("101 has no phrases to lose", x.gone(), 4);
    }

    @Sentence("Likewise for nodes further above.")
    static void openBoutsFurtherAbove() {
        Hall x = drawn(8);
        win(x, 104, 0);
        win(x, 105, 0);
        win(x, 106, 0);
        win(x, 107, 0);
        win(x, 103, 0);
        begin(x, 102);
        touch(x, 1);
        is("102 is open", x.winner(102), NONE);
        x.test(0, 0, 0);
        is("102 is gone", x.phrases(102), 0);
        is("gone()", x.gone(), 1);
        is("103 stays", x.phrases(103), 5);
        is("its winner, too", x.fencerOf(101, 1), 1);
        Hall y = drawn(8);
        win(y, 104, 0);
        win(y, 105, 0);
        win(y, 102, 1);
        y.test(0, 0, 0);
        is("a decided one is gone", y.phrases(102), 0);
        is("its winner is not known", y.nodeWinner(2), NONE);
        is("nor in the node above", y.fencerOf(101, 0), NONE);
        is("one alone is gone", y.gone(), 1);
    }

    @Sentence("33: Returns how many bouts of the tableau are gone so far, since what they rested on became another one; "
        + "those without phrases are not counted.")
    static void goneSoFar() {
        is("in a new hall", Recorder.hall(EPEE).gone(), 0);
        Hall x = drawn(4);
        is("at first", x.gone(), 0);
        win(x, 102, 0);
        win(x, 103, 0);
        begin(x, 101);
        int spare = spare(x, 0);
        x.test(0, 0, 0);
        is("one without phrases", x.gone(), 0);
        dueEmptyPiste(x);
        x.begin(102, spare, 3);
        touches(x, 0, 5);
        x.begin(101, spare, 1);
        emptyPhrases(x, 1);
        x.test(spare, 0, 0);
        is("one with a phrase without touches", x.gone(), 1);
        // With ten phrases struck, two touches of the side 1 decide 102; the final is fenced to its end.
        x.begin(102, spare(x, 0), 3);
        touches(x, 1, 2);
        begin(x, 101);
        touches(x, 1, 5);
        x.test(3, 0, 0);
        is("one that is decided", x.gone(), 2);
        x.test(1, 0, 0);
        is("one that is gone already", x.gone(), 2);
    }

    @Sentence("33: Returns how many bouts of the tableau are gone so far, since what they rested on became another one; "
        + "those without phrases are not counted.")
    static void boutsOfPoolsAreNotCounted() {
        Hall x = poolsFenced(EPEE, 4);
        x.test(0, 0, 0);
        is("open again", x.winner(0), NONE);
        is("not gone", x.gone(), 0);
        is("its phrases stay", x.phrases(0), 3);
    }

    @Sentence("33: Returns how many bouts of the tableau are gone so far, since what they rested on became another one; "
        + "those without phrases are not counted.")
    static void twoBoutsByOneWeapon() {
        Hall x = drawn(8);
        win(x, 104, 0);
        win(x, 105, 0);
        win(x, 106, 0);
        win(x, 107, 0);
        win(x, 102, 1);
        win(x, 103, 1);
        begin(x, 101);
        touch(x, 0);
        x.test(3, 0, 0);
        // The fencer 3 came by 105, and by 102, which rested on that, to the final.
        is("102 and 101", x.gone(), 2);
        is("102", x.phrases(102), 0);
        is("101", x.phrases(101), 0);
        is("105 stays", x.phrases(105), 5);
    }
}
