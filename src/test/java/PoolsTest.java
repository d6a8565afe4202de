/** The sentences on the pools and the ranks: promises 25 to 29. */
public final class PoolsTest extends Edges {
    private static final int[] NO_NUMBERS = {-1, -2, 12, MAX, MIN};

    public static void main(String[] args) {
        run(PoolsTest.class);
    }

    // ---- promises 25 and 26

    @Sentence("When the pools are drawn, their number is told; the fencer f is in the pool that is the remainder of f by "
        + "that.")
    static void poolsByRemainder() {
        for (int pools = 1; pools <= 4; pools++) {
            Hall x = hall(EPEE, 11);
            int count = x.drawPools(pools);
            for (int bout = 0; bout < count; bout++) {
                int first = x.fencerOf(bout, 0) % pools;
                is("the pool of the side 1 of " + bout, x.fencerOf(bout, 1) % pools, first);
            }
        }
    }

    @Sentence("In each pool each two fencers have one bout, the lower number on the side 0.")
    static void eachTwoHaveOneBout() {
        for (int pools = 1; pools <= 4; pools++) {
            Hall x = hall(EPEE, 12);
            int count = x.drawPools(pools);
            int[][] met = new int[12][12];
            for (int bout = 0; bout < count; bout++) {
                met[x.fencerOf(bout, 0)][x.fencerOf(bout, 1)]++;
            }
            for (int first = 0; first < 12; first++) {
                for (int second = 0; second < 12; second++) {
                    boolean isDue = first < second && first % pools == second % pools;
                    is("bouts of " + first + " and " + second, met[first][second], isDue ? 1 : 0);
                }
            }
        }
    }

    @Sentence({"25: Draws the pools.", "25: Returns how many bouts they have."})
    static void boutsOfAllPools() {
        for (int fencers = 2; fencers <= 12; fencers++) {
            for (int pools = 1; pools <= 4 && 2 * pools <= fencers; pools++) {
                Hall x = hall(EPEE, fencers);
                int count = x.drawPools(pools);
                is("drawPools(" + pools + ") of " + fencers, duePairs(x, fencers, pools), count);
            }
        }
    }

    private static int duePairs(Hall x, int fencers, int pools) {
        int bout = 0;
        for (int pool = 0; pool < pools; pool++) {
            for (int low = pool; low < fencers; low += pools) {
                for (int high = low + pools; high < fencers; high += pools) {
                    is("side 0 of " + bout, x.fencerOf(bout, 0), low);
                    is("side 1 of " + bout, x.fencerOf(bout, 1), high);
                    bout++;
                }
            }
        }
        return bout;
    }

    @Sentence("The bouts of all pools are numbered from 0: those of lower pools ahead, of one pool those with the lower "
        + "fencer on the side 0 ahead, of these those with the lower one on the side 1.")
    static void numbersOfBouts() {
        Hall x = hall(EPEE, 7);
        is("drawPools(2) of 7", x.drawPools(2), 9);
        int[][] pairs = {{0, 2}, {0, 4}, {0, 6}, {2, 4}, {2, 6}, {4, 6}, {1, 3}, {1, 5}, {3, 5}};
        for (int bout = 0; bout < 9; bout++) {
            is("side 0 of " + bout, x.fencerOf(bout, 0), pairs[bout][0]);
            is("side 1 of " + bout, x.fencerOf(bout, 1), pairs[bout][1]);
        }
        refused(x, "no bout 9", INDEX, h -> h.fencerOf(9, 0));
        int[][] counts = {{2, 1, 1}, {12, 1, 66}, {12, 2, 30}, {12, 3, 18}, {12, 4, 12}, {11, 4, 10}, {8, 4, 4}};
        for (int[] row : counts) {
            is("drawPools(" + row[1] + ") of " + row[0], hall(EPEE, row[0]).drawPools(row[1]), row[2]);
        }
    }

    @Sentence("26: Returns how many bouts the pools have; 0 if they are not drawn.")
    static void poolBoutsTold() {
        is("of a new hall", Recorder.hall(EPEE).poolBouts(), 0);
        Hall x = hall(EPEE, 7);
        is("not drawn", x.poolBouts(), 0);
        refused(x, "drawPools(4) of 7", STATE, h -> h.drawPools(4));
        is("still not drawn", x.poolBouts(), 0);
        x.drawPools(2);
        is("of pools of 4 and 3", x.poolBouts(), 9);
        Hall y = hall(EPEE, 12);
        y.drawPools(1);
        is("of one pool of 12", y.poolBouts(), 66);
        is("in the tableau", drawn(2).poolBouts(), 1);
    }

    @Sentence({"25: Throws IllegalArgumentException if pools is out of range", "25: pools: 1 to 4"})
    static void poolsOutOfRange() {
        for (int pools : new int[] {0, 5, -1, 6, 12, MAX, MIN}) {
            refused(hall(EPEE, 12), "drawPools(" + pools + ") of 12", ARGUMENT, h -> h.drawPools(pools));
            refused(Recorder.hall(EPEE), "drawPools(" + pools + ") of none", ARGUMENT, h -> h.drawPools(pools));
            refused(onPiste(EPEE), "drawPools(" + pools + ") again", ARGUMENT, h -> h.drawPools(pools));
        }
        is("drawPools(4) of 12", hall(EPEE, 12).drawPools(4), 12);
    }

    @Sentence("25: Throws IllegalStateException if they are drawn, or a pool would have less than 2 fencers")
    static void poolsTooSmallOrDrawn() {
        for (int pools = 1; pools <= 4; pools++) {
            int told = pools;
            for (int fencers = 0; fencers < 2 * pools; fencers++) {
                refused(hall(EPEE, fencers), pools + " of " + fencers, STATE, h -> h.drawPools(told));
            }
            Hall x = hall(EPEE, 2 * pools);
            is(pools + " of " + 2 * pools, x.drawPools(pools), pools);
            refused(x, pools + " once more", STATE, h -> h.drawPools(told));
            refused(x, "1 then", STATE, h -> h.drawPools(1));
        }
        refused(drawn(2), "behind the tableau", STATE, h -> h.drawPools(1));
        refused(fencing(EPEE), "in a phrase", STATE, h -> h.drawPools(1));
    }

    // ---- promises 27 to 29

    @Sentence("Of a fencer there count the bouts of the pool that are decided: how many they are, how many of them are "
        + "won, the touches given in them, which are the scores of the own side, and the touches got, those of the other "
        + "one.")
    static void onlyDecidedBoutsCount() {
        Hall x = hall(EPEE, 3);
        is("won() ahead of the pools", x.won(2), 0);
        is("index() ahead of the pools", x.index(2), 0);
        x.drawPools(1);
        x.begin(2, 1, 2);
        touch(x, 0);
        touches(x, 1, 2);
        is("won() of an open bout", x.won(2), 0);
        is("index() of an open bout", x.index(2), 0);
        is("index() of the other side", x.index(1), 0);
        touch(x, 1);
        is("won(2)", x.won(2), 1);
        is("won(1)", x.won(1), 0);
        is("won(0)", x.won(0), 0);
        is("index(2)", x.index(2), 2);
        is("index(1)", x.index(1), -2);
        is("index(0)", x.index(0), 0);
        x.test(2, 0, 0);
        is("won(2), it is open again", x.won(2), 0);
        is("index(2), it is open again", x.index(2), 0);
        is("index(1), it is open again", x.index(1), 0);
    }

    @Sentence("Of a fencer there count the bouts of the pool that are decided: how many they are, how many of them are "
        + "won, the touches given in them, which are the scores of the own side, and the touches got, those of the other "
        + "one.")
    static void boutsOfTheTableauDoNotCount() {
        Hall x = drawn(4);
        win(x, 102, 1);
        win(x, 103, 1);
        win(x, 101, 1);
        for (int f = 0; f < 4; f++) {
            is("won(" + f + ")", x.won(f), f < 2 ? 1 : 0);
            is("index(" + f + ")", x.index(f), f < 2 ? 3 : -3);
        }
        dueRanks(x, 0, 1, 2, 3);
        x.test(0, 0, 0);
        is("won(0), its weapon has failed then", x.won(0), 1);
        is("index(0), its weapon has failed then", x.index(0), 3);
        dueRanks(x, 0, 1, 2, 3);
    }

    @Sentence("27: Returns how many bouts of the pool a fencer has won.")
    static void wonTold() {
        Hall x = hall(EPEE, 12);
        is("ahead of the pools", x.won(11), 0);
        x.drawPools(4);
        for (int bout = 0; bout < 12; bout++) {
            win(x, bout, 1);
        }
        for (int f = 0; f < 12; f++) {
            is("won(" + f + ")", x.won(f), f / 4);
        }
    }

    @Sentence("28: Returns the index of a fencer.")
    static void indexTold() {
        Hall x = hall(EPEE, 12);
        is("ahead of the pools", x.index(11), 0);
        x.drawPools(4);
        is("without a decided bout", x.index(11), 0);
        for (int bout = 0; bout < 12; bout++) {
            win(x, bout, 1);
        }
        for (int f = 0; f < 12; f++) {
            is("index(" + f + ")", x.index(f), 6 * (f / 4) - 6);
        }
    }

    @Sentence("The index is the touches given less those got.")
    static void indexOfManyBouts() {
        Hall x = hall(EPEE, 3);
        x.drawPools(1);
        x.begin(0, 0, 1);
        both(x);
        touches(x, 0, 2);
        x.begin(1, 0, 2);
        touches(x, 1, 3);
        is("3 to 1 and 0 to 3", x.index(0), -1);
        is("1 to 3", x.index(1), -2);
        is("3 to 0", x.index(2), 3);
        x.begin(2, 1, 2);
        both(x);
        both(x);
        both(x);
        touch(x, 0);
        is("1 to 3 and 3 to 2", x.index(1), -1);
        is("3 to 0 and 2 to 3", x.index(2), 2);
    }

    @Sentence("One fencer ranks ahead of another one if the quotient of bouts won by bouts is greater (0 without bouts), "
        + "exactly; of the same if the index is greater, then if there are more touches given, then if the number is "
        + "lower.")
    static void quotientsOfUnlikePools() {
        Hall x = hall(EPEE, 7);
        x.drawPools(2);
        // The pool 0 has 0, 2, 4, 6 with the bouts 0 to 5, the pool 1 has 1, 3, 5 with 6 to 8.
        dueRanks(x, 0, 1, 2, 3, 4, 5, 6);
        win(x, 0, 0);
        win(x, 1, 0);
        win(x, 2, 1);
        win(x, 6, 1);
        is("won(0)", x.won(0), 2);
        is("index(0)", x.index(0), 3);
        // 6 and 3 have 1 of 1, 0 has 2 of 3 with the same index; 5 has no bouts, and the index 0.
        dueRanks(x, 3, 6, 0, 5, 1, 2, 4);
        win(x, 7, 0);
        // 1 has 1 of 2 and the index 0, 5 has 0 of 1.
        dueRanks(x, 3, 6, 0, 1, 2, 4, 5);
        win(x, 8, 1);
        // 1, 3 and 5 have 1 of 2, the index 0, and 3 touches given each.
        dueRanks(x, 6, 0, 1, 3, 5, 2, 4);
    }

    @Sentence("One fencer ranks ahead of another one if the quotient of bouts won by bouts is greater (0 without bouts), "
        + "exactly; of the same if the index is greater, then if there are more touches given, then if the number is "
        + "lower.")
    static void quotientWithoutBouts() {
        Hall x = hall(EPEE, 6);
        x.drawPools(2);
        x.begin(0, 0, 2);
        both(x);
        both(x);
        touch(x, 0);
        win(x, 1, 1);
        is("index(0), by 3 to 2 and 0 to 3", x.index(0), -2);
        // 4 has 1 of 1, and 0 has 1 of 2; 1, 3 and 5 have no bouts, and the index 0; 2 has 0 of 1.
        dueRanks(x, 4, 0, 1, 3, 5, 2);
    }

    @Sentence("One fencer ranks ahead of another one if the quotient of bouts won by bouts is greater (0 without bouts), "
        + "exactly; of the same if the index is greater, then if there are more touches given, then if the number is "
        + "lower.")
    static void quotientsAreExact() {
        Hall x = hall(EPEE, 12);
        x.drawPools(1);
        // The fencer 11 wins 10 of 11, each but by 3 to 2; the fencer 0 wins 9 of 10, each by 3 to 0.
        for (int bout = 0; bout < 66; bout++) {
            int low = x.fencerOf(bout, 0);
            if (x.fencerOf(bout, 1) == 11) {
                begin(x, bout);
                if (low == 10) {
                    touches(x, 0, 3);
                } else {
                    both(x);
                    both(x);
                    touch(x, 1);
                }
            } else if (low == 0 && bout > 0) {
                win(x, bout, 0);
            }
        }
        is("won(11)", x.won(11), 10);
        is("index(11)", x.index(11), 7);
        is("won(0)", x.won(0), 9);
        is("index(0)", x.index(0), 26);
        // The fencer 10 has 1 of 2; in whole hundredths 11 and 0 both have 90.
        dueRanks(x, 11, 0, 10, 1);
    }

    @Sentence("One fencer ranks ahead of another one if the quotient of bouts won by bouts is greater (0 without bouts), "
        + "exactly; of the same if the index is greater, then if there are more touches given, then if the number is "
        + "lower.")
    static void sameQuotientsOfUnlikeBouts() {
        for (int got = 0; got < 2; got++) {
            Hall x = hall(EPEE, 9);
            x.drawPools(2);
            // The fencer 0 wins 2 of 4, with the index 0 and 6 touches given.
            win(x, 0, 0);
            win(x, 1, 0);
            win(x, 2, 1);
            win(x, 3, 1);
            // The fencer 1 wins 1 of 2, by 3 to 0, and by 0 to 3 or 2 to 3.
            win(x, 10, 0);
            begin(x, 11);
            if (got == 0) {
                touches(x, 1, 3);
                dueRanks(x, 5, 6, 8, 0, 1, 7, 2, 3, 4);
            } else {
                both(x);
                both(x);
                touch(x, 1);
                dueRanks(x, 6, 8, 5, 1, 0, 7, 2, 3, 4);
            }
        }
    }

    @Sentence("One fencer ranks ahead of another one if the quotient of bouts won by bouts is greater (0 without bouts), "
        + "exactly; of the same if the index is greater, then if there are more touches given, then if the number is "
        + "lower.")
    static void indexThenTouchesThenNumber() {
        Hall x = hall(EPEE, 4);
        x.drawPools(2);
        x.begin(0, 0, 2);
        both(x);
        touches(x, 0, 2);
        win(x, 1, 0);
        is("index(0)", x.index(0), 2);
        is("index(1)", x.index(1), 3);
        dueRanks(x, 1, 0, 2, 3);
        Hall y = hall(EPEE, 4);
        y.drawPools(2);
        // Both win by 2: the fencer 0 by 2 to 0 in twelve phrases, the fencer 1 by 3 to 1.
        y.begin(0, 0, 2);
        touches(y, 0, 2);
        emptyPhrases(y, 10);
        y.begin(1, 1, 3);
        touch(y, 1);
        touches(y, 0, 3);
        is("the same index", y.index(0), y.index(1));
        dueRanks(y, 1, 0, 3, 2);
        Hall z = hall(EPEE, 4);
        z.drawPools(2);
        win(z, 0, 1);
        win(z, 1, 1);
        dueRanks(z, 2, 3, 0, 1);
    }

    @Sentence("27: Throws IndexOutOfBoundsException if there is no such fencer")
    static void wonOfNobody() {
        noFencer(Hall::won);
    }

    @Sentence("28: Throws IndexOutOfBoundsException if there is no such fencer")
    static void indexOfNobody() {
        noFencer(Hall::index);
    }

    @Sentence({"29: Throws IndexOutOfBoundsException if there is no such place", "29: place: 0 for the one who ranks first"})
    static void rankOfNoPlace() {
        noFencer(Hall::rankedAt);
    }

    private interface OfNumber {
        long of(Hall hall, int number);
    }

    private static void noFencer(OfNumber asked) {
        refused(Recorder.hall(EPEE), "0 of none", INDEX, h -> asked.of(h, 0));
        Hall x = hall(EPEE, 3);
        refused(x, "3 of three", INDEX, h -> asked.of(h, 3));
        Hall y = drawn(3);
        refused(y, "3 of three in the tableau", INDEX, h -> asked.of(h, 3));
        Hall z = hall(EPEE, 12);
        for (int number : NO_NUMBERS) {
            refused(x, number + " of three", INDEX, h -> asked.of(h, number));
            refused(z, number + " of twelve", INDEX, h -> asked.of(h, number));
        }
        is("the last one", Ask.answer(z, h -> asked.of(h, 11)).contains("Exception"), false);
    }

    @Sentence("29: Returns a fencer by the ranks of now.")
    static void ranksOfNow() {
        Hall x = hall(EPEE, 3);
        dueRanks(x, 0, 1, 2);
        x.drawPools(1);
        dueRanks(x, 0, 1, 2);
        win(x, 2, 1);
        dueRanks(x, 2, 0, 1);
        x.begin(1, 0, 2);
        touches(x, 0, 3);
        dueRanks(x, 0, 2, 1);
        x.test(0, 0, 0);
        dueRanks(x, 2, 0, 1);
        x.test(2, 0, 0);
        dueRanks(x, 0, 1, 2);
    }
}
