/** The sentences on the bench: promises 14 and 24. */
public final class BenchTest extends Edges {
    public static void main(String[] args) {
        run(BenchTest.class);
    }

    @Sentence({"Each fencer has 2 appeals in each bout.", "24: Returns how many appeals a side of a bout has left."})
    static void twoAppeals() {
        for (int side = 0; side < 2; side++) {
            int by = side;
            Hall x = hall(FOIL, 3);
            x.drawPools(1);
            x.begin(0, 0, 1);
            bothWithRight(x, 1);
            is("at first", x.appeals(0, side), 2);
            x.appeal(side, 1);
            is("behind one", x.appeals(0, side), 1);
            emptyPhrases(x, 1);
            x.appeal(side, 1);
            is("behind two", x.appeals(0, side), 0);
            is("of the other side", x.appeals(0, 1 - side), 2);
            refused(x, "a third one", STATE, h -> h.appeal(by, 1));
            refused(x, "a third one that would change something", STATE, h -> h.appeal(by, 0));
            is("the other side still can", x.appeal(1 - side, 0), 0);
            x.begin(0, 0, 1);
            is("none comes back", x.appeals(0, side), 0);
            is("in the bouts of others", x.appeals(1, side), 2);
            x.begin(side == 0 ? 1 : 2, side, 2);
            both(x);
            is("the same fencer in another bout", x.appeal(0, NONE), 0);
            is("one of its own two", x.appeals(side == 0 ? 1 : 2, 0), 1);
        }
    }

    @Sentence("A side can appeal as to the latest phrase of the bout on the piste, also if that is decided by it, when "
        + "the phrase has ended, until the next one begins: the bench tells who had the right in it.")
    static void fromTheEndOfAPhraseToTheNext() {
        Hall x = onPiste(FOIL);
        refused(x, "ahead of a phrase", STATE, h -> h.appeal(0, 0));
        x.allez();
        hear(x, "r1:0 0+5 1+5");
        refused(x, "in the phrase", STATE, h -> h.appeal(0, 0));
        x.halt();
        is("when it has ended", x.appeal(0, 0), 1);
        is("more than once", x.appeal(1, 1), 2);
        int other = spare(x, 0);
        x.change(0, other);
        is("behind change()", x.appeal(0, 0), 1);
        x.allez();
        refused(x, "when the next one has begun", STATE, h -> h.appeal(1, 1));
        x.halt();
        is("as to the next one", x.appeal(1, 1), 0);
        is("not as to the one before", x.touches(0, 0), 1);
    }

    @Sentence("A side can appeal as to the latest phrase of the bout on the piste, also if that is decided by it, when "
        + "the phrase has ended, until the next one begins: the bench tells who had the right in it.")
    static void asToThePhraseThatDecided() {
        Hall x = onPiste(FOIL);
        touches(x, 1, 2);
        bothWithRight(x, 1);
        dueScore(x, 0, 0, 3, 1);
        is("decided by it", x.appeal(0, NONE), 0);
        dueScore(x, 0, 0, 2, NONE);
        is("decided again", x.appeal(1, 1), 2);
        dueScore(x, 0, 0, 3, 1);
        is("to the other side", x.appeal(0, 0), 1);
        dueScore(x, 0, 1, 2, NONE);
        is("it goes on", x.allez(), 3);
        x.halt();
        Hall y = onPiste(FOIL);
        emptyPhrases(y, 11);
        bothWithRight(y, 1);
        dueScore(y, 0, 0, 1, 1);
        is("decided by the twelfth", y.appeal(0, 0), 1);
        dueScore(y, 0, 1, 0, 0);
        is("also to nothing", y.appeal(1, NONE), 0);
        dueScore(y, 0, 0, 0, 0);
        refused(y, "a thirteenth phrase", STATE, Hall::allez);
    }

    @Sentence("If the touches of the phrase that are not struck are the same as before, the appeal is used up.")
    static void usedUpIfTheSame() {
        Hall x = onPiste(FOIL);
        bothWithRight(x, 1);
        is("another touch", x.appeal(0, 0), 1);
        is("is not used up", x.appeals(0, 0), 2);
        is("none", x.appeal(0, NONE), 0);
        is("is not used up either", x.appeals(0, 0), 2);
        is("the same", x.appeal(0, NONE), 0);
        is("is used up", x.appeals(0, 0), 1);
        is("another one again", x.appeal(0, 1), 2);
        is("is not used up then", x.appeals(0, 0), 1);
        Hall y = onPiste(EPEE);
        both(y);
        is("at EPEE it is the same", y.appeal(1, 0), 3);
        is("used up at EPEE", y.appeals(0, 1), 1);
        Hall z = onPiste(FOIL);
        touch(z, 1);
        is("one light is the same", z.appeal(0, 0), 2);
        is("used up by one light", z.appeals(0, 0), 1);
    }

    @Sentence("If the touches of the phrase that are not struck are the same as before, the appeal is used up.")
    static void struckTouchesAreNotCompared() {
        Hall x = onPiste(FOIL);
        bothWithRight(x, 1);
        x.test(1, 0, 0);
        is("struck", x.touches(0, 0), 0);
        is("a struck one less", x.appeal(0, NONE), 0);
        is("is the same, and used up", x.appeals(0, 0), 1);
        is("a struck one more", x.appeal(0, 1), 0);
        is("is the same, too", x.appeals(0, 0), 0);
        is("one that is not struck", x.appeal(1, 0), 1);
        is("is not used up", x.appeals(0, 1), 2);
        is("that one less", x.appeal(1, 1), 0);
        is("is not used up either", x.appeals(0, 1), 2);
    }

    @Sentence({"14: Appeals to the bench as to the latest phrase.", "14: Returns the touches of the phrase then, as by halt()."})
    static void touchesThen() {
        Hall x = onPiste(FOIL);
        bothWithRight(x, NONE);
        is("the side 0", x.appeal(1, 0), 1);
        is("the side 1", x.appeal(1, 1), 2);
        is("none", x.appeal(1, NONE), 0);
        Hall y = onPiste(EPEE);
        both(y);
        is("both", y.appeal(0, 1), 3);
        y.test(0, 0, 0);
        is("not the struck one", y.appeal(0, 1), 2);
    }

    @Sentence({"14: Throws IndexOutOfBoundsException if there is no such side", "14: side: 0 or 1: who appeals"})
    static void appealOfNoSide() {
        Hall x = onPiste(FOIL);
        bothWithRight(x, 1);
        for (int side : new int[] {-1, 2, -2, MAX, MIN}) {
            refused(x, "side " + side, INDEX, h -> h.appeal(side, 0));
            refused(hall(FOIL, 2), "side " + side + " on the empty piste", INDEX, h -> h.appeal(side, 0));
        }
    }

    @Sentence({"14: Throws IllegalArgumentException if right is out of range",
        "14: right: the side that had the right by the bench, 0 or 1, or NONE"})
    static void appealForNoSide() {
        Hall x = onPiste(FOIL);
        bothWithRight(x, 1);
        for (int right : new int[] {-2, 2, 3, MAX, MIN}) {
            refused(x, "right " + right, ARGUMENT, h -> h.appeal(0, right));
            refused(hall(FOIL, 2), "right " + right + " on the empty piste", ARGUMENT, h -> h.appeal(0, right));
        }
    }

    @Sentence("14: Throws IllegalStateException if the piste is empty, a phrase is on, no phrase has ended since the bout "
        + "came onto the piste last, or the side has no appeal left")
    static void appealAtAWrongTime() {
        refused(hall(FOIL, 2), "no bout has begun", STATE, h -> h.appeal(0, 0));
        Hall drawn = poolsFenced(FOIL, 2);
        is("ahead of the drawing", drawn.appeal(0, 0), 1);
        drawn.drawTableau();
        refused(drawn, "the piste is empty again", STATE, h -> h.appeal(0, 0));
        drawn.begin(101, 0, 1);
        refused(drawn, "no phrase of the bout has ended", STATE, h -> h.appeal(0, 0));
        drawn.allez();
        refused(drawn, "a phrase is on", STATE, h -> h.appeal(0, 0));
        drawn.halt();
        is("behind the phrase", drawn.appeal(0, 0), 0);
        is("the last one", drawn.appeal(0, 0), 0);
        refused(drawn, "no appeal is left", STATE, h -> h.appeal(0, 0));
    }

    @Sentence("14: Throws IllegalStateException if the piste is empty, a phrase is on, no phrase has ended since the bout "
        + "came onto the piste last, or the side has no appeal left")
    static void appealSinceTheBoutCame() {
        Hall x = hall(FOIL, 3);
        x.drawPools(1);
        x.begin(0, 0, 1);
        bothWithRight(x, 1);
        refused(x, "begin() that is refused", STATE, h -> h.begin(1, 0, 1));
        is("it has not come anew by that", x.appeal(0, 0), 1);
        x.begin(0, 0, 1);
        refused(x, "it has come anew itself", STATE, h -> h.appeal(0, 1));
        x.begin(1, 0, 2);
        refused(x, "another one has come", STATE, h -> h.appeal(0, 1));
        bothWithRight(x, 1);
        x.begin(0, 0, 1);
        refused(x, "it has come back", STATE, h -> h.appeal(0, 1));
        emptyPhrases(x, 1);
        is("behind a phrase since then", x.appeal(0, 1), 0);
        is("only as to that", x.touches(0, 0), 1);
    }

    @Sentence("24: Returns how many appeals a side of a bout has left.")
    static void appealsTold() {
        Hall x = drawn(FOIL, 3);
        for (int bout : new int[] {0, 1, 2, 101, 102, 103}) {
            is("side 0 of " + bout, x.appeals(bout, 0), 2);
            is("side 1 of " + bout, x.appeals(bout, 1), 2);
        }
        begin(x, 103);
        emptyPhrases(x, 1);
        x.appeal(1, 0);
        is("used up", x.appeals(103, 1), 1);
        is("not by this one", x.appeals(103, 0), 2);
        is("nor in another bout", x.appeals(0, 1), 2);
    }
}
