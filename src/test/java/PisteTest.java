/** The sentences on the piste and on the events of a phrase: promises 8 to 13 and 15 to 17. */
public final class PisteTest extends Edges {
    private static final int[] NO_SIDES = {-1, 2, -2, 3, MAX, MIN};
    private static final int[] NO_NUMBERS = {-1, -2, 24, MAX, MIN};

    public static void main(String[] args) {
        run(PisteTest.class);
    }

    // ---- promise 8

    @Sentence({"At most one bout is on the piste; there each side has a weapon of its fencer.",
        "8: Lets a bout come onto the piste, in place of the one that is there.", "8: first: the weapon of the side 0",
        "8: second: the weapon of the side 1"})
    static void oneBoutOnThePiste() {
        Hall x = hall(EPEE, 3);
        x.drawPools(1);
        dueEmptyPiste(x);
        x.begin(1, 0, 2);
        is("piste()", x.piste(), 1);
        is("weaponOf(0)", x.weaponOf(0), 0);
        is("weaponOf(1)", x.weaponOf(1), 2);
        x.begin(2, 1, 2);
        is("piste() then", x.piste(), 2);
        is("weaponOf(0) then", x.weaponOf(0), 1);
        is("weaponOf(1) then", x.weaponOf(1), 2);
        touch(x, 1);
        is("the touch is of the bout there", x.phrases(2), 1);
        is("and not of the one before", x.phrases(1), 0);
    }

    @Sentence("8: Returns how many phrases it has.")
    static void phrasesOfTheBoutThatBegins() {
        Hall x = hall(EPEE, 3);
        x.drawPools(1);
        is("a new one", x.begin(0, 0, 1), 0);
        emptyPhrases(x, 2);
        is("another one", x.begin(1, 0, 2), 0);
        emptyPhrases(x, 11);
        is("back again", x.begin(0, 0, 1), 2);
        is("the same again", x.begin(0, 0, 1), 2);
        is("the one with 11", x.begin(1, 0, 2), 11);
        is("in the tableau", begin(drawn(2), 101), 0);
    }

    @Sentence({"8: Throws IndexOutOfBoundsException if there is no such bout or weapon", "8: bout: as told at fencerOf()"})
    static void beginOfNoBoutOrWeapon() {
        Hall x = hall(EPEE, 3);
        refused(x, "bout 0 ahead of the pools", INDEX, h -> h.begin(0, 0, 1));
        x.drawPools(1);
        refused(x, "bout 3 of three", INDEX, h -> h.begin(3, 0, 1));
        refused(x, "bout 100", INDEX, h -> h.begin(100, 0, 1));
        refused(x, "bout 101 ahead of the tableau", INDEX, h -> h.begin(101, 0, 1));
        refused(x, "first 3 of three", INDEX, h -> h.begin(0, 3, 1));
        refused(x, "second 3 of three", INDEX, h -> h.begin(0, 0, 3));
        for (int number : NO_NUMBERS) {
            refused(x, "bout " + number, INDEX, h -> h.begin(number, 0, 1));
            refused(x, "first " + number, INDEX, h -> h.begin(0, number, 1));
            refused(x, "second " + number, INDEX, h -> h.begin(0, 0, number));
        }
        Hall y = drawn(4);
        refused(y, "bout 100 in the tableau", INDEX, h -> h.begin(100, 0, 1));
        refused(y, "bout 104 at the size 4", INDEX, h -> h.begin(104, 0, 1));
        is("bout 103 at the size 4", begin(y, 103), 0);
    }

    @Sentence("8: Throws IllegalStateException if a phrase is on, a side of the bout is nobody or not known, the bout "
        + "is decided, or a weapon is not MARKED, or not of the fencer of its side")
    static void beginOfABoutThatCannotBeFenced() {
        Hall x = hall(EPEE, 3);
        x.drawPools(1);
        x.begin(0, 0, 1);
        x.allez();
        refused(x, "the bout there, a phrase is on", STATE, h -> h.begin(0, 0, 1));
        refused(x, "another bout, a phrase is on", STATE, h -> h.begin(2, 1, 2));
        x.halt();
        touches(x, 1, 3);
        refused(x, "decided by the goal", STATE, h -> h.begin(0, 0, 1));
        x.begin(1, 0, 2);
        emptyPhrases(x, 12);
        refused(x, "decided by 12 phrases", STATE, h -> h.begin(1, 0, 2));
        Hall five = drawn(5);
        refused(five, "the side 1 is nobody", STATE, h -> h.begin(104, 0, 1));
        refused(five, "the side 1 is nobody, and its weapon that of the side 0", STATE, h -> h.begin(104, 0, 0));
        refused(five, "the side 1 is not known", STATE, h -> h.begin(102, 0, 3));
        refused(five, "no side is known", STATE, h -> h.begin(101, 0, 1));
        is("both are known", five.begin(103, 1, 2), 0);
        Hall seven = drawn(7);
        win(seven, 107, 0);
        refused(seven, "the side 0 is not known", STATE, h -> h.begin(103, 1, 2));
        refused(seven, "a decided bout of a pool", STATE, h -> h.begin(0, 0, 3));
    }

    @Sentence("8: Throws IllegalStateException if a phrase is on, a side of the bout is nobody or not known, the bout "
        + "is decided, or a weapon is not MARKED, or not of the fencer of its side")
    static void beginWithWrongWeapons() {
        Hall x = hall(EPEE, 3);
        x.drawPools(1);
        int untested = x.weapon(0);
        int other = x.weapon(1);
        refused(x, "the first is untested", STATE, h -> h.begin(0, untested, 1));
        refused(x, "the second is untested", STATE, h -> h.begin(0, 0, other));
        x.test(untested, 0, 0);
        x.test(other, 600, 16);
        refused(x, "the first has failed", STATE, h -> h.begin(0, untested, 1));
        refused(x, "the second has failed", STATE, h -> h.begin(0, 0, other));
        refused(x, "the first is of the side 1", STATE, h -> h.begin(0, 1, 1));
        refused(x, "the second is of the side 0", STATE, h -> h.begin(0, 0, 0));
        refused(x, "crosswise", STATE, h -> h.begin(0, 1, 0));
        refused(x, "the first is of a third one", STATE, h -> h.begin(0, 2, 1));
        refused(x, "the second is of a third one", STATE, h -> h.begin(0, 0, 2));
        is("marked, and of their fencers", x.begin(0, 0, 1), 0);
        is("another weapon of the same fencer", x.begin(0, spare(x, 0), 1), 0);
        Hall turned = hall(EPEE, 2);
        turned.drawPools(1);
        win(turned, 0, 1);
        turned.drawTableau();
        // The fencer 1 is the seed 1, and on the side 0.
        refused(turned, "by number, not by side", STATE, h -> h.begin(101, 0, 1));
        is("by side", turned.begin(101, 1, 0), 0);
    }

    // ---- promise 9

    @Sentence({"9: Lets a side of the bout on the piste take another weapon.", "9: Returns the weapon before.",
        "9: side: 0 or 1", "9: weapon: a weapon"})
    static void changeOfAWeapon() {
        Hall x = onPiste(EPEE);
        int third = spare(x, 0);
        int fourth = spare(x, 1);
        is("change(0)", x.change(0, third), 0);
        is("weaponOf(0)", x.weaponOf(0), third);
        is("weaponOf(1)", x.weaponOf(1), 1);
        is("change(1)", x.change(1, fourth), 1);
        is("weaponOf(0) then", x.weaponOf(0), third);
        is("weaponOf(1) then", x.weaponOf(1), fourth);
        is("back", x.change(0, 0), third);
        is("the same again", x.change(0, 0), 0);
        x.test(0, 0, 0);
        is("instead of a failed one", x.change(0, third), 0);
        touches(x, 1, 3);
        is("when the bout is decided", x.change(1, 1), fourth);
    }

    @Sentence("9: Throws IndexOutOfBoundsException if there is no such side or weapon")
    static void changeOfNoSideOrWeapon() {
        Hall x = onPiste(EPEE);
        for (int side : NO_SIDES) {
            refused(x, "side " + side, INDEX, h -> h.change(side, 0));
        }
        for (int number : NO_NUMBERS) {
            refused(x, "weapon " + number, INDEX, h -> h.change(0, number));
        }
        refused(x, "weapon 2 of two", INDEX, h -> h.change(0, 2));
    }

    @Sentence("9: Throws IllegalStateException if the piste is empty, a phrase is on, or the weapon is not MARKED, or "
        + "not of the fencer of the side")
    static void changeAtAWrongTimeOrOfAWrongWeapon() {
        refused(hall(EPEE, 2), "no bout has begun", STATE, h -> h.change(0, 0));
        refused(drawn(2), "the piste is empty again", STATE, h -> h.change(0, 0));
        Hall x = onPiste(EPEE);
        int marked = spare(x, 0);
        int untested = x.weapon(0);
        int failed = x.weapon(1);
        x.test(failed, 0, 0);
        refused(x, "untested", STATE, h -> h.change(0, untested));
        refused(x, "failed", STATE, h -> h.change(1, failed));
        refused(x, "of the side 1", STATE, h -> h.change(0, 1));
        refused(x, "of the side 0", STATE, h -> h.change(1, marked));
        x.allez();
        refused(x, "a phrase is on", STATE, h -> h.change(0, marked));
        refused(x, "a phrase is on, the same weapon", STATE, h -> h.change(1, 1));
        x.halt();
        is("behind the phrase", x.change(0, marked), 0);
        Hall three = hall(EPEE, 3);
        three.drawPools(1);
        three.begin(0, 0, 1);
        refused(three, "of a third one", STATE, h -> h.change(0, 2));
        refused(three, "of a third one on the side 1", STATE, h -> h.change(1, 2));
    }

    // ---- promise 10

    @Sentence({"10: Begins a phrase.", "10: Returns its number."})
    static void numbersOfPhrases() {
        Hall x = hall(EPEE, 3);
        x.drawPools(1);
        x.begin(0, 0, 1);
        is("isFencing() ahead", x.isFencing(), false);
        is("the first one", x.allez(), 0);
        is("isFencing()", x.isFencing(), true);
        x.halt();
        is("the second one", x.allez(), 1);
        x.halt();
        x.begin(1, 0, 2);
        is("the first one of another bout", x.allez(), 0);
        x.halt();
        x.begin(0, 0, 1);
        is("the third one of the first bout", x.allez(), 2);
    }

    @Sentence("A bout has the sides 0 and 1, each with a fencer, and phrases, numbered from 0, at most 12.")
    static void twelvePhrases() {
        Hall x = onPiste(EPEE);
        for (int i = 0; i < 12; i++) {
            is("allez()", x.allez(), i);
            is("isFencing()", x.isFencing(), true);
            is("winner() in the phrase", x.winner(0), NONE);
            x.halt();
            is("phrases()", x.phrases(0), i + 1);
        }
        refused(x, "a thirteenth phrase", STATE, Hall::allez);
        is("phrases() then", x.phrases(0), 12);
        Hall y = onFinal(EPEE);
        emptyPhrases(y, 11);
        is("the twelfth one in the tableau", y.allez(), 11);
        y.halt();
        refused(y, "a thirteenth one in the tableau", STATE, Hall::allez);
    }

    @Sentence("10: Throws IllegalStateException if the piste is empty, a phrase is on, the bout is decided, or a weapon "
        + "there is not MARKED")
    static void allezAtAWrongTime() {
        refused(Recorder.hall(EPEE), "in a new hall", STATE, Hall::allez);
        refused(drawn(2), "the piste is empty again", STATE, Hall::allez);
        refused(fencing(EPEE), "a phrase is on", STATE, Hall::allez);
        Hall x = onPiste(EPEE);
        touches(x, 0, 2);
        is("ahead of the decision", x.allez(), 2);
        x.contact(0, true, 0);
        x.halt();
        refused(x, "the bout is decided", STATE, Hall::allez);
        for (int side = 0; side < 2; side++) {
            Hall y = onPiste(EPEE);
            y.test(side, 0, 0);
            refused(y, "the weapon of the side " + side + " has failed", STATE, Hall::allez);
            y.change(side, spare(y, side));
            is("with another one", y.allez(), 0);
        }
        Hall z = onPiste(EPEE);
        z.test(spare(z, 0), 0, 0);
        is("a weapon that is not there has failed", z.allez(), 0);
    }

    // ---- promises 11 and 12

    @Sentence("A phrase is a row of at most 8 events, each at a time, none earlier than the one ahead of it: a contact "
        + "of a side, on or off the target; or that a side, or none, has the right from then on.")
    static void eightEvents() {
        Hall x = fencing(EPEE);
        is("1", x.contact(0, false, 0), 1);
        is("2", x.right(1, 0), 2);
        is("3", x.contact(1, true, 0), 3);
        is("4", x.right(NONE, 4), 4);
        is("5", x.contact(1, false, 4), 5);
        is("6", x.contact(0, true, 5), 6);
        is("7", x.right(0, 5), 7);
        is("8", x.contact(0, true, MAX), 8);
        refused(x, "a ninth contact", STATE, h -> h.contact(0, true, MAX));
        refused(x, "a ninth right", STATE, h -> h.right(0, MAX));
        is("halt()", x.halt(), 3);
        is("the next phrase is empty", x.allez(), 1);
        is("its first event", x.contact(0, true, 0), 1);
    }

    @Sentence({"11: Hears a contact.", "11: Returns how many events the phrase has then.",
        "11: isOn: whether it is on the target"})
    static void contacts() {
        Hall x = fencing(EPEE);
        is("off", x.contact(0, false, 3), 1);
        is("on", x.contact(1, true, 3), 2);
        is("only that on the target counts", x.halt(), 2);
        x.allez();
        is("a new phrase", x.contact(0, true, 0), 1);
        is("the same again", x.contact(0, true, 0), 2);
        is("halt()", x.halt(), 1);
    }

    @Sentence({"11: Throws IndexOutOfBoundsException if there is no such side", "11: side: 0 or 1"})
    static void contactOfNoSide() {
        Hall x = fencing(EPEE);
        hear(x, "0-5");
        for (int side : NO_SIDES) {
            refused(x, "side " + side, INDEX, h -> h.contact(side, true, 6));
        }
        is("what was refused is no event", x.contact(1, true, 5), 2);
    }

    @Sentence({"11: Throws IllegalArgumentException if time is below 0, or below that of the event ahead of it",
        "11: time: 0 or more"})
    static void contactTooEarly() {
        Hall x = fencing(EPEE);
        refused(x, "-1 at first", ARGUMENT, h -> h.contact(0, true, -1));
        refused(x, "MIN at first", ARGUMENT, h -> h.contact(0, true, MIN));
        is("0 at first", x.contact(0, false, 0), 1);
        refused(x, "-1 behind 0", ARGUMENT, h -> h.contact(0, true, -1));
        is("7 behind 0", x.contact(0, false, 7), 2);
        refused(x, "6 behind 7", ARGUMENT, h -> h.contact(0, true, 6));
        refused(x, "0 of the other side behind 7", ARGUMENT, h -> h.contact(1, true, 0));
        is("7 behind 7", x.contact(1, false, 7), 3);
        is("the right at 9", x.right(0, 9), 4);
        refused(x, "8 behind the right", ARGUMENT, h -> h.contact(0, true, 8));
        is("9 behind the right", x.contact(0, true, 9), 5);
        is("MAX", x.contact(0, true, MAX), 6);
        refused(x, "MAX - 1 behind MAX", ARGUMENT, h -> h.contact(0, true, MAX - 1));
        x.halt();
        x.allez();
        is("0 in the next phrase", x.contact(0, true, 0), 1);
        refused(onPiste(EPEE), "-1 when no phrase is on", ARGUMENT, h -> h.contact(0, true, -1));
    }

    @Sentence("11: Throws IllegalStateException if no phrase is on, or it has 8 events")
    static void contactAtAWrongTime() {
        refused(Recorder.hall(EPEE), "in a new hall", STATE, h -> h.contact(0, true, 0));
        Hall x = onPiste(EPEE);
        refused(x, "ahead of a phrase", STATE, h -> h.contact(0, true, 0));
        phrase(x, "0-9");
        refused(x, "behind a phrase", STATE, h -> h.contact(0, true, 0));
        refused(full(EPEE), "a ninth event", STATE, h -> h.contact(1, true, 17));
        refused(full(EPEE), "a ninth event, late", STATE, h -> h.contact(1, true, MAX));
    }

    @Sentence({"12: Hears that a side has the right from now on.", "12: Returns how many events the phrase has then."})
    static void rights() {
        Hall x = fencing(FOIL);
        is("right(1)", x.right(1, 0), 1);
        is("right(0)", x.right(0, 0), 2);
        is("right(NONE)", x.right(NONE, 1), 3);
        is("right(1) again", x.right(1, 1), 4);
        hear(x, "0+1 1+1");
        is("halt()", x.halt(), 2);
    }

    @Sentence({"12: Throws IllegalArgumentException if side is out of range, or time is below 0, or below that of the "
        + "event ahead of it", "12: side: 0 or 1, or NONE", "12: time: 0 or more"})
    static void rightOutOfRange() {
        Hall x = fencing(FOIL);
        for (int side : new int[] {-2, 2, 3, MAX, MIN}) {
            refused(x, "side " + side, ARGUMENT, h -> h.right(side, 0));
        }
        refused(x, "-1 at first", ARGUMENT, h -> h.right(0, -1));
        refused(x, "MIN at first", ARGUMENT, h -> h.right(NONE, MIN));
        is("0 at first", x.right(0, 0), 1);
        is("a contact at 7", x.contact(0, false, 7), 2);
        refused(x, "6 behind a contact", ARGUMENT, h -> h.right(1, 6));
        is("7 behind a contact", x.right(1, 7), 3);
        refused(x, "6 behind the right", ARGUMENT, h -> h.right(NONE, 6));
        refused(x, "-1 behind the right", ARGUMENT, h -> h.right(NONE, -1));
        is("7 behind the right", x.right(NONE, 7), 4);
        is("MAX", x.right(0, MAX), 5);
        refused(x, "MAX - 1 behind MAX", ARGUMENT, h -> h.right(0, MAX - 1));
        refused(onPiste(FOIL), "-1 when no phrase is on", ARGUMENT, h -> h.right(0, -1));
    }

    @Sentence("12: Throws IllegalStateException if no phrase is on, or it has 8 events")
    static void rightAtAWrongTime() {
        refused(Recorder.hall(FOIL), "in a new hall", STATE, h -> h.right(0, 0));
        Hall x = onPiste(FOIL);
        refused(x, "ahead of a phrase", STATE, h -> h.right(NONE, 0));
        phrase(x, "0-9");
        refused(x, "behind a phrase", STATE, h -> h.right(1, 0));
        refused(full(FOIL), "a ninth event", STATE, h -> h.right(NONE, 17));
        refused(full(FOIL), "a ninth event, late", STATE, h -> h.right(1, MAX));
    }

    // ---- promise 13

    @Sentence({"13: Ends the phrase, which is judged.",
        "13: Returns its touches that are not struck: 1 for one of the side 0, and 2 for one of the side 1, together."})
    static void endOfAPhrase() {
        Hall x = onPiste(EPEE);
        is("without events", phrase(x, ""), 0);
        is("isFencing() then", x.isFencing(), false);
        is("one of the side 0", phrase(x, "0+5"), 1);
        is("one of the side 1", phrase(x, "1+5"), 2);
        is("both together", phrase(x, "0+5 1+5"), 3);
        is("none", phrase(x, "0-5 1-5"), 0);
        is("it stays on the piste", x.piste(), 0);
        touch(x, 0);
        is("also when it is decided", x.winner(0), 0);
        is("it stays there then", x.piste(), 0);
    }

    @Sentence("13: Throws IllegalStateException if no phrase is on")
    static void haltAtAWrongTime() {
        refused(Recorder.hall(EPEE), "in a new hall", STATE, Hall::halt);
        Hall x = onPiste(EPEE);
        refused(x, "ahead of a phrase", STATE, Hall::halt);
        phrase(x, "0+5");
        refused(x, "behind a phrase", STATE, Hall::halt);
        refused(drawn(2), "the piste is empty", STATE, Hall::halt);
    }

    // ---- promises 15 to 17

    @Sentence("15: Returns the bout on the piste; NONE if it is empty.")
    static void pisteTold() {
        is("in a new hall", Recorder.hall(EPEE).piste(), NONE);
        Hall x = onPiste(EPEE);
        is("the bout 0", x.piste(), 0);
        touches(x, 0, 3);
        is("when it is decided", x.piste(), 0);
        x.drawTableau();
        is("behind the drawing", x.piste(), NONE);
        x.begin(101, 0, 1);
        is("the bout 101", x.piste(), 101);
        x.allez();
        is("in a phrase", x.piste(), 101);
    }

    @Sentence("16: Tells whether a phrase is on.")
    static void isFencingTold() {
        is("in a new hall", Recorder.hall(EPEE).isFencing(), false);
        Hall x = onPiste(EPEE);
        is("ahead of a phrase", x.isFencing(), false);
        x.allez();
        is("in a phrase", x.isFencing(), true);
        x.contact(0, true, 0);
        is("behind an event", x.isFencing(), true);
        x.halt();
        is("behind the phrase", x.isFencing(), false);
    }

    @Sentence("17: Returns the weapon of a side on the piste; NONE if it is empty.")
    static void weaponsTold() {
        Hall x = hall(EPEE, 2);
        is("weaponOf(0) on the empty piste", x.weaponOf(0), NONE);
        is("weaponOf(1) on the empty piste", x.weaponOf(1), NONE);
        x.drawPools(1);
        int third = spare(x, 0);
        x.begin(0, third, 1);
        is("weaponOf(0)", x.weaponOf(0), third);
        is("weaponOf(1)", x.weaponOf(1), 1);
        x.test(1, 0, 0);
        is("when it has failed", x.weaponOf(1), 1);
        x.change(1, spare(x, 1));
        touches(x, 0, 3);
        x.drawTableau();
        is("weaponOf(0) behind the drawing", x.weaponOf(0), NONE);
        is("weaponOf(1) behind the drawing", x.weaponOf(1), NONE);
    }

    @Sentence({"17: Throws IndexOutOfBoundsException if there is no such side", "17: side: 0 or 1"})
    static void weaponOfNoSide() {
        for (int side : NO_SIDES) {
            refused(onPiste(EPEE), "side " + side, INDEX, h -> h.weaponOf(side));
            refused(hall(EPEE, 2), "side " + side + " on the empty piste", INDEX, h -> h.weaponOf(side));
        }
    }
}
