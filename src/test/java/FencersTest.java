/** The sentences on a new object, on fencers, and on weapons and their tests: promises 1 to 7. */
public final class FencersTest extends Edges {
    private static final int UNTESTED = PisteLine.UNTESTED;
    private static final int MARKED = PisteLine.MARKED;
    private static final int FAILED = PisteLine.FAILED;
    private static final int[] NO_NUMBERS = {-1, -2, MAX, MIN};

    public static void main(String[] args) {
        run(FencersTest.class);
    }

    // ---- promise 1

    @Sentence({"The constants: NONE = -1: None; nobody.", "EPEE = 0, FOIL = 1: Disciplines.",
        "UNTESTED = 0, MARKED = 1, FAILED = 2: What weapons are."})
    static void constants() {
        is("NONE", PisteLine.NONE, -1);
        is("EPEE", PisteLine.EPEE, 0);
        is("FOIL", PisteLine.FOIL, 1);
        is("UNTESTED", PisteLine.UNTESTED, 0);
        is("MARKED", PisteLine.MARKED, 1);
        is("FAILED", PisteLine.FAILED, 2);
    }

    @Sentence("1: A hall without fencers.")
    static void nothingInANewHall() {
        Hall x = Recorder.hall(EPEE);
        is("fencers()", x.fencers(), 0);
        is("poolBouts()", x.poolBouts(), 0);
        is("size()", x.size(), 0);
        is("gone()", x.gone(), 0);
        dueEmptyPiste(x);
        for (int number : new int[] {-1, 0, 1, 100, 101}) {
            refused(x, "weapon(" + number + ")", INDEX, h -> h.weapon(number));
            refused(x, "mark(" + number + ")", INDEX, h -> h.mark(number));
            refused(x, "fencerOf(" + number + ", 0)", INDEX, h -> h.fencerOf(number, 0));
            refused(x, "rankedAt(" + number + ")", INDEX, h -> h.rankedAt(number));
            refused(x, "nodeWinner(" + number + ")", INDEX, h -> h.nodeWinner(number));
        }
    }

    @Sentence("1: discipline: EPEE; any other number for FOIL")
    static void anyOtherNumberIsFoil() {
        for (int discipline : new int[] {0, 1, 2, 3, -1, 100, MAX, MIN}) {
            Hall x = onPiste(discipline);
            // Two lights without the right are two touches at EPEE, and none at FOIL.
            is("two lights at " + discipline, both(x), discipline == 0 ? 3 : 0);
            is("50 behind at " + discipline, phrase(x, "r1:0 0+0 1+50"), discipline == 0 ? 1 : 2);
        }
    }

    // ---- promise 2

    @Sentence({"Fencers are numbered from 0, at most 12.", "2: Adds a fencer.", "2: Returns the number."})
    static void twelveFencers() {
        Hall x = Recorder.hall(EPEE);
        for (int f = 0; f < 12; f++) {
            is("fencer()", x.fencer(), f);
            is("fencers()", x.fencers(), f + 1);
        }
        refused(x, "a thirteenth fencer()", STATE, Hall::fencer);
        refused(x, "a fourteenth fencer()", STATE, Hall::fencer);
        is("fencers() then", x.fencers(), 12);
    }

    @Sentence("2: Throws IllegalStateException if there are 12, or the pools are drawn")
    static void noFencerBehindThePools() {
        Hall x = hall(EPEE, 2);
        refused(x, "drawPools() that is refused", STATE, h -> h.drawPools(2));
        is("fencer() ahead of the pools", x.fencer(), 2);
        x.drawPools(1);
        refused(x, "fencer() behind the pools", STATE, Hall::fencer);
        Hall twelve = hall(FOIL, 12);
        refused(twelve, "fencer() if there are 12", STATE, Hall::fencer);
        twelve.drawPools(4);
        refused(twelve, "fencer() if both", STATE, Hall::fencer);
        refused(drawn(3), "fencer() behind the tableau", STATE, Hall::fencer);
    }

    // ---- promise 3

    @Sentence({"Weapons are numbered from 0, at most 24; each is of one fencer, and UNTESTED, MARKED or FAILED.",
        "3: Adds a weapon, which is UNTESTED.", "3: Returns its number."})
    static void twentyFourWeapons() {
        Hall x = Recorder.hall(EPEE);
        x.fencer();
        x.fencer();
        x.fencer();
        for (int w = 0; w < 24; w++) {
            is("weapon()", x.weapon(w % 2), w);
            is("mark()", x.mark(w), UNTESTED);
            is("owner()", x.owner(w), w % 2);
        }
        is("the last one is tested", x.test(23, 600, 0), true);
        is("mark(23)", x.mark(23), MARKED);
        is("mark(22)", x.mark(22), UNTESTED);
        is("the last one but one fails", x.test(22, 0, 0), false);
        is("mark(22) then", x.mark(22), FAILED);
    }

    @Sentence("3: Throws IllegalStateException if there are 24")
    static void noTwentyFifthWeapon() {
        for (int owners = 1; owners <= 3; owners++) {
            Hall x = hall(EPEE, 3);
            for (int w = 3; w < 23; w++) {
                x.weapon(w % owners);
            }
            is("the last weapon()", x.weapon(0), 23);
            refused(x, "a twenty-fifth weapon(0)", STATE, h -> h.weapon(0));
            refused(x, "a twenty-fifth weapon(2)", STATE, h -> h.weapon(2));
            refused(x, "weapon 24 is not there", INDEX, h -> h.owner(24));
        }
    }

    @Sentence({"3: Throws IndexOutOfBoundsException if there is no such fencer", "3: fencer: a fencer"})
    static void weaponOfNobody() {
        Hall x = Recorder.hall(EPEE);
        refused(x, "weapon(0) without fencers", INDEX, h -> h.weapon(0));
        x.fencer();
        x.fencer();
        refused(x, "weapon(2) of two", INDEX, h -> h.weapon(2));
        for (int number : NO_NUMBERS) {
            refused(x, "weapon(" + number + ")", INDEX, h -> h.weapon(number));
        }
        is("weapon(1) of two", x.weapon(1), 0);
        Hall twelve = hall(EPEE, 12);
        refused(twelve, "weapon(12) of twelve", INDEX, h -> h.weapon(12));
        is("weapon(11) of twelve", twelve.weapon(11), 12);
    }

    /** No clause of weapon() names a phrase, the pools or the tableau. */
    @Sentence("3: Adds a weapon, which is UNTESTED.")
    static void aWeaponAtAnyTime() {
        is("weapon() in a phrase", fencing(EPEE).weapon(1), 2);
        is("weapon() behind the pools", onPiste(EPEE).weapon(0), 2);
        is("weapon() behind the tableau", drawn(2).weapon(0), 2);
    }

    // ---- promise 4

    @Sentence({"A test of a weapon that has not FAILED makes it MARKED, if its weight is 500 to 770 and its travel "
        + "at most 15; otherwise it has FAILED, for good.", "4: Tests a weapon.",
        "4: Returns whether it is MARKED then."})
    static void limitsOfATest() {
        int[][] rows = {
            {500, 0, 1}, {500, 15, 1}, {770, 15, 1}, {770, 0, 1}, {635, 7, 1}, {501, 14, 1}, {769, 1, 1},
            {499, 0, 0}, {499, 15, 0}, {771, 0, 0}, {771, 15, 0}, {500, 16, 0}, {770, 16, 0}, {499, 16, 0},
            {771, 16, 0}, {0, 0, 0}, {2000, 0, 0}, {600, 100, 0}, {2000, 100, 0}, {0, 100, 0},
        };
        Hall x = Recorder.hall(EPEE);
        x.fencer();
        for (int[] row : rows) {
            int w = x.weapon(0);
            String what = "test of " + row[0] + ", " + row[1];
            is(what, x.test(w, row[0], row[1]), row[2] == 1);
            is("mark() behind the " + what, x.mark(w), row[2] == 1 ? MARKED : FAILED);
        }
    }

    @Sentence("A test of a weapon that has not FAILED makes it MARKED, if its weight is 500 to 770 and its travel "
        + "at most 15; otherwise it has FAILED, for good.")
    static void failedForGood() {
        Hall x = hall(EPEE, 1);
        is("a marked one again", x.test(0, 501, 1), true);
        is("it is still", x.mark(0), MARKED);
        is("a marked one, then false", x.test(0, 501, 16), false);
        is("it has", x.mark(0), FAILED);
        refused(x, "a failed one, good now", STATE, h -> h.test(0, 600, 0) ? 1 : 0);
        refused(x, "a failed one, false again", STATE, h -> h.test(0, 0, 0) ? 1 : 0);
        is("it still has", x.mark(0), FAILED);
        int untested = x.weapon(0);
        is("an untested one, false at once", x.test(untested, 771, 0), false);
        is("that has, too", x.mark(untested), FAILED);
    }

    @Sentence({"4: Throws IndexOutOfBoundsException if there is no such weapon", "4: weapon: a weapon"})
    static void testOfNoWeapon() {
        Hall x = Recorder.hall(EPEE);
        refused(x, "without weapons", INDEX, h -> h.test(0, 600, 0) ? 1 : 0);
        x.fencer();
        x.weapon(0);
        refused(x, "test(1)", INDEX, h -> h.test(1, 600, 0) ? 1 : 0);
        for (int number : NO_NUMBERS) {
            refused(x, "test(" + number + ")", INDEX, h -> h.test(number, 600, 0) ? 1 : 0);
        }
        refused(x, "test(24)", INDEX, h -> h.test(24, 600, 0) ? 1 : 0);
    }

    @Sentence({"4: Throws IllegalArgumentException if weight or travel is out of range", "4: weight: 0 to 2000",
        "4: travel: 0 to 100"})
    static void testOutOfRange() {
        int[][] rows = {
            {-1, 0}, {2001, 0}, {MIN, 0}, {MAX, 0}, {600, -1}, {600, 101}, {600, MIN}, {600, MAX},
            {-1, -1}, {2001, 101}, {-1, 101},
        };
        Hall x = Recorder.hall(EPEE);
        x.fencer();
        x.weapon(0);
        Hall marked = hall(EPEE, 1);
        for (int[] row : rows) {
            String what = "test of " + row[0] + ", " + row[1];
            refused(x, what, ARGUMENT, h -> h.test(0, row[0], row[1]) ? 1 : 0);
            refused(marked, what + " of a marked one", ARGUMENT, h -> h.test(0, row[0], row[1]) ? 1 : 0);
        }
        is("it is still", x.mark(0), UNTESTED);
        is("the lowest ones", x.test(0, 0, 0), false);
        x.weapon(0);
        is("the highest ones", x.test(1, 2000, 100), false);
    }

    @Sentence("4: Throws IllegalStateException if it has FAILED, or a phrase is on")
    static void testAtAWrongTime() {
        Hall x = fencing(EPEE);
        int third = x.weapon(0);
        refused(x, "of a weapon there", STATE, h -> h.test(0, 600, 0) ? 1 : 0);
        refused(x, "of a weapon there, false", STATE, h -> h.test(1, 0, 0) ? 1 : 0);
        refused(x, "of another weapon", STATE, h -> h.test(third, 600, 0) ? 1 : 0);
        x.halt();
        is("behind the phrase", x.test(third, 600, 0), true);
        is("of a weapon there then", x.test(0, 600, 0), true);
        is("of a weapon there, false then", x.test(1, 600, 16), false);
        refused(x, "of a failed one", STATE, h -> h.test(1, 600, 0) ? 1 : 0);
    }

    // ---- promises 5 to 7

    @Sentence("5: Returns how many fencers there are.")
    static void howManyFencers() {
        is("of none", Recorder.hall(EPEE).fencers(), 0);
        is("of 1", hall(EPEE, 1).fencers(), 1);
        is("of 12", hall(EPEE, 12).fencers(), 12);
        is("in the tableau", drawn(5).fencers(), 5);
    }

    @Sentence({"6: Returns what a weapon is.", "6: Throws IndexOutOfBoundsException if there is no such weapon"})
    static void whatAWeaponIs() {
        Hall x = hall(EPEE, 2);
        x.weapon(0);
        x.test(1, 0, 0);
        is("mark(0)", x.mark(0), MARKED);
        is("mark(1)", x.mark(1), FAILED);
        is("mark(2)", x.mark(2), UNTESTED);
        refused(x, "mark(3)", INDEX, h -> h.mark(3));
        refused(x, "mark(24)", INDEX, h -> h.mark(24));
        for (int number : NO_NUMBERS) {
            refused(x, "mark(" + number + ")", INDEX, h -> h.mark(number));
        }
        refused(Recorder.hall(EPEE), "mark(0) without weapons", INDEX, h -> h.mark(0));
        Hall all = hall(EPEE, 12);
        for (int f = 0; f < 12; f++) {
            all.weapon(f);
        }
        is("mark(23)", all.mark(23), UNTESTED);
        refused(all, "mark(24) of 24", INDEX, h -> h.mark(24));
    }

    @Sentence({"7: Returns the fencer of a weapon.", "7: Throws IndexOutOfBoundsException if there is no such weapon"})
    static void whoseAWeaponIs() {
        Hall x = hall(EPEE, 3);
        x.weapon(1);
        x.test(3, 0, 0);
        is("owner(0)", x.owner(0), 0);
        is("owner(2)", x.owner(2), 2);
        is("owner(3), which has failed", x.owner(3), 1);
        refused(x, "owner(4)", INDEX, h -> h.owner(4));
        refused(x, "owner(24)", INDEX, h -> h.owner(24));
        for (int number : NO_NUMBERS) {
            refused(x, "owner(" + number + ")", INDEX, h -> h.owner(number));
        }
        refused(Recorder.hall(EPEE), "owner(0) without weapons", INDEX, h -> h.owner(0));
    }

    // ---- what holds for every call

    @Sentence("An object is used for at most 512 calls after it has been made; what later calls answer is free.")
    static void fiveHundredAndTwelveCalls() {
        Hall x = hall(EPEE, 12);
        for (int f = 0; f < 12; f++) {
            x.weapon(f);
        }
        x.drawPools(1);
        int bout = 0;
        for (int low = 0; low < 12 && bout < 46; low++) {
            for (int high = low + 1; high < 12 && bout < 46; high++) {
                x.begin(bout, low, high);
                touches(x, 1, 3);
                bout++;
            }
        }
        is("calls so far", Recorder.of(x).calls(), 509);
        is("the 510th call", x.winner(45), 6);
        is("the 511th call", x.won(11), 5);
        is("the 512th call", x.score(45, 1), 3);
    }
}
