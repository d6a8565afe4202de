/** The sentences on how a phrase is judged: lights, touches, the right, and what is struck. */
public final class JudgingTest extends Edges {
    public static void main(String[] args) {
        run(JudgingTest.class);
    }

    @Sentence("At the beginning of a phrase none has it.")
    static void noneHasTheRightAtFirst() {
        Hall x = onPiste(FOIL);
        is("in a first phrase", both(x), 0);
        is("told in the second one", bothWithRight(x, 1), 2);
        is("not taken over to the third one", both(x), 0);
        is("the bench tells of the third one", x.appeal(0, 0), 1);
        is("not taken over to the fourth one", both(x), 0);
    }

    @Sentence("A phrase keeps with which weapons it was fenced.")
    static void weaponsOfAPhrase() {
        for (int side = 0; side < 2; side++) {
            Hall x = onPiste(EPEE);
            int other = spare(x, side);
            touch(x, side);
            x.change(side, other);
            is("the first phrase", x.touches(0, 0), 1 + side);
            x.test(other, 0, 0);
            is("it was not fenced with the later weapon", x.touches(0, 0), 1 + side);
            x.test(side, 0, 0);
            is("but with the first one", x.touches(0, 0), 0);
        }
        Hall y = onPiste(EPEE);
        int third = spare(y, 0);
        touch(y, 0);
        y.begin(0, third, 1);
        touch(y, 0);
        y.test(0, 0, 0);
        is("also when the bout has come anew", y.touches(0, 0), 0);
        is("with the other weapon", y.touches(0, 1), 1);
    }

    @Sentence("The first light of a phrase is its first contact that counts; at EPEE those on the target count, at FOIL "
        + "all.")
    static void firstLight() {
        dueTouches(EPEE, "", 0);
        dueTouches(EPEE, "0-0 1-0", 0);
        dueTouches(EPEE, "0-0 1+41", 2);
        dueTouches(EPEE, "0-0 1+50 0+90", 3);
        dueTouches(EPEE, "0-0 1+50 0+91", 2);
        dueTouches(EPEE, "r0:0 1+50 0+91", 2);
        dueTouches(FOIL, "", 0);
        dueTouches(FOIL, "0-0 1+301", 0);
        dueTouches(FOIL, "0-0 0+1", 0);
        dueTouches(FOIL, "r1:0 0-0 1+300", 2);
        dueTouches(FOIL, "r0:0 0-0 1+300", 0);
        dueTouches(FOIL, "r1:0 1-0 0+0 1+0", 0);
    }

    @Sentence("The other side has a light, too, if it has a contact that counts, no later than the lock-out behind the "
        + "time of the first light: 40 at EPEE, 300 at FOIL; its first such contact is that light.")
    static void lockOut() {
        for (int begin : new int[] {0, 1, 100, MAX - 301}) {
            dueTouches(EPEE, "0+" + begin + " 1+" + begin, 3);
            dueTouches(EPEE, "0+" + begin + " 1+" + (begin + 39), 3);
            dueTouches(EPEE, "0+" + begin + " 1+" + (begin + 40), 3);
            dueTouches(EPEE, "0+" + begin + " 1+" + (begin + 41), 1);
            dueTouches(EPEE, "1+" + begin + " 0+" + (begin + 40), 3);
            dueTouches(EPEE, "1+" + begin + " 0+" + (begin + 41), 2);
            dueTouches(FOIL, "r1:0 0+" + begin + " 1+" + (begin + 299), 2);
            dueTouches(FOIL, "r1:0 0+" + begin + " 1+" + (begin + 300), 2);
            dueTouches(FOIL, "r1:0 0+" + begin + " 1+" + (begin + 301), 1);
            dueTouches(FOIL, "r0:0 1+" + begin + " 0+" + (begin + 300), 1);
            dueTouches(FOIL, "r0:0 1+" + begin + " 0+" + (begin + 301), 2);
        }
        dueTouches(EPEE, "0+0 1+" + MAX, 1);
        dueTouches(EPEE, "0+" + (MAX - 40) + " 1+" + MAX, 3);
        dueTouches(EPEE, "0+" + (MAX - 41) + " 1+" + MAX, 1);
        dueTouches(FOIL, "r1:0 0+0 1+" + MAX, 1);
        dueTouches(FOIL, "r1:0 0+" + (MAX - 300) + " 1+" + MAX, 2);
        dueTouches(FOIL, "r1:0 0+" + MAX + " 1+" + MAX, 2);
    }

    @Sentence("The other side has a light, too, if it has a contact that counts, no later than the lock-out behind the "
        + "time of the first light: 40 at EPEE, 300 at FOIL; its first such contact is that light.")
    static void lightOfTheOtherSide() {
        // The lock-out runs from the first light, not from a later contact of its side.
        dueTouches(EPEE, "0+0 0+30 1+41", 1);
        dueTouches(EPEE, "0+0 0+30 1+40", 3);
        dueTouches(EPEE, "0+0 1-1 1+40", 3);
        dueTouches(EPEE, "0+0 1-40 1+41", 1);
        dueTouches(EPEE, "1-0 0+0 1-40", 1);
        dueTouches(FOIL, "r1:0 0+5 1-6 1+7", 0);
        dueTouches(FOIL, "r1:0 0+5 1+6 1-7", 2);
        dueTouches(FOIL, "r1:0 0+5 0-6 1+305", 2);
        dueTouches(FOIL, "r1:0 0+5 0-6 1+306", 1);
        dueTouches(FOIL, "r0:0 0+5 0-6 1+7", 1);
        dueTouches(FOIL, "r0:0 0-5 0+6 1+7", 0);
    }

    @Sentence("A phrase is a row of at most 8 events, each at a time, none earlier than the one ahead of it: a contact of "
        + "a side, on or off the target; or that a side, or none, has the right from then on.")
    static void lightsInEachPlaceOfTheRow() {
        for (int ahead = 0; ahead < 8; ahead++) {
            for (int side = 0; side < 2; side++) {
                dueTouches(EPEE, (1 - side + "-0 ").repeat(ahead) + side + "+9", 1 + side);
                dueTouches(FOIL, ("r" + (1 - side) + ":0 ").repeat(ahead) + side + "+9", 1 + side);
            }
        }
        for (int between = 0; between < 7; between++) {
            for (int side = 0; side < 2; side++) {
                dueTouches(EPEE, side + "+0 " + (1 - side + "-0 ").repeat(between) + (1 - side) + "+9", 3);
                dueTouches(FOIL, side + "+0 " + "rN:0 ".repeat(between) + (1 - side) + "+9", 0);
            }
        }
        for (int ahead = 0; ahead < 6; ahead++) {
            dueTouches(FOIL, "rN:0 ".repeat(ahead) + "r1:1 0+2 1+9", 2);
            dueTouches(FOIL, "r1:0 ".repeat(ahead) + "r0:1 1+2 0+9", 1);
        }
    }

    @Sentence("(Events of the same time are in the order in which they were told.)")
    static void eventsOfTheSameTime() {
        dueTouches(FOIL, "r0:5 0+5 1+5", 1);
        dueTouches(FOIL, "0+5 r0:5 1+5", 0);
        dueTouches(FOIL, "0+5 1+5 r0:5", 0);
        dueTouches(FOIL, "r0:5 r1:5 0+5 1+5", 2);
        dueTouches(FOIL, "r1:5 r0:5 0+5 1+5", 1);
        dueTouches(FOIL, "r1:5 0+5 1-5 1+5", 0);
        dueTouches(FOIL, "r1:5 0+5 1+5 1-5", 2);
        dueTouches(FOIL, "r1:5 0+5 r0:5 1+5", 2);
        dueTouches(FOIL, "1-5 1+5", 0);
        dueTouches(FOIL, "1+5 1-5", 2);
    }

    @Sentence("At EPEE each side that has a light has a touch.")
    static void touchesAtEpee() {
        dueTouches(EPEE, "0+5", 1);
        dueTouches(EPEE, "1+5", 2);
        dueTouches(EPEE, "0+5 1+5", 3);
        dueTouches(EPEE, "1+5 0+5", 3);
        dueTouches(EPEE, "0+5 0+5 0+5 1+5 1+5", 3);
        for (String right : new String[] {"r0:0", "r1:0", "rN:0"}) {
            dueTouches(EPEE, right + " 0+5 1+6", 3);
            dueTouches(EPEE, right + " 0+5", 1);
            dueTouches(EPEE, right + " 1+5", 2);
        }
    }

    @Sentence("At FOIL, if just one side has a light, it has a touch if that is on the target; if both have, the side "
        + "that had the right when the first light came has a touch if its own light is on the target, the other one "
        + "has none; if neither had it, none has.")
    static void touchesAtFoil() {
        String[] rights = {"", "rN:0 ", "r0:0 ", "r1:0 "};
        for (int leading = 0; leading < 2; leading++) {
            for (int r = 0; r < rights.length; r++) {
                int holder = r < 2 ? NONE : r - 2;
                dueTouches(FOIL, rights[r] + leading + "+5", 1 + leading);
                dueTouches(FOIL, rights[r] + leading + "-5", 0);
                for (int on = 0; on < 4; on++) {
                    String first = leading + ((on >> leading & 1) == 1 ? "+" : "-") + "5 ";
                    String other = 1 - leading + ((on >> 1 - leading & 1) == 1 ? "+" : "-") + "6";
                    int want = holder == NONE ? 0 : on & 1 << holder;
                    dueTouches(FOIL, rights[r] + first + other, want);
                }
            }
        }
    }

    @Sentence("At FOIL, if just one side has a light, it has a touch if that is on the target; if both have, the side "
        + "that had the right when the first light came has a touch if its own light is on the target, the other one "
        + "has none; if neither had it, none has.")
    static void rightWhenTheFirstLightCame() {
        dueTouches(FOIL, "r0:0 r1:1 0+2 1+3", 2);
        dueTouches(FOIL, "r0:0 rN:1 0+2 1+3", 0);
        dueTouches(FOIL, "rN:0 r0:1 0+2 1+3", 1);
        dueTouches(FOIL, "r0:0 0+2 r1:3 1+4", 1);
        dueTouches(FOIL, "r0:0 0+2 rN:3 1+4", 1);
        dueTouches(FOIL, "0+2 r1:3 1+4", 0);
        dueTouches(FOIL, "r1:0 0-2 r0:3 1+4", 2);
        dueTouches(FOIL, "r0:0 0+2 1+3 r1:4", 1);
        dueTouches(FOIL, "r0:0 1+2 1+3 r1:3 0+4", 1);
    }

    @Sentence("If the bench has told who had the right, what it told last holds instead.")
    static void whatTheBenchTold() {
        int[] touchesByRight = {0, 1, 2};
        for (int heard = -1; heard < 2; heard++) {
            for (int told = -1; told < 2; told++) {
                Hall x = onPiste(FOIL);
                is("heard " + heard, bothWithRight(x, heard), touchesByRight[heard + 1]);
                is("told " + told, x.appeal(0, told), touchesByRight[told + 1]);
                is("touches()", x.touches(0, 0), touchesByRight[told + 1]);
                for (int last = -1; last < 2; last++) {
                    Hall y = onPiste(FOIL);
                    bothWithRight(y, heard);
                    y.appeal(0, told);
                    is("told last " + last, y.appeal(1, last), touchesByRight[last + 1]);
                    dueScore(y, 0, touchesByRight[last + 1] & 1, touchesByRight[last + 1] >> 1, NONE);
                }
            }
        }
        Hall one = onPiste(FOIL);
        phrase(one, "r1:0 0+5");
        is("one light needs no right", one.appeal(1, 1), 1);
        Hall off = onPiste(FOIL);
        phrase(off, "r1:0 0-5 1+6");
        is("a light off the target is no touch", off.appeal(0, 0), 0);
        is("the other one's is again", off.appeal(1, 1), 2);
    }

    @Sentence("A touch is struck if the weapon with which its side fenced the phrase has FAILED; in a bout of a pool, if "
        + "it had FAILED ahead of the drawing of the tableau.")
    static void struckInAPool() {
        for (int side = 0; side < 2; side++) {
            Hall x = onPiste(EPEE);
            both(x);
            touch(x, side);
            touch(x, 1 - side);
            x.test(spare(x, side), 0, 0);
            is("a weapon that was not there", x.touches(0, 0), 3);
            x.test(side, 600, 0);
            is("one that is good again", x.touches(0, 0), 3);
            x.test(side, 499, 0);
            is("of two touches", x.touches(0, 0), 2 - side);
            is("of one", x.touches(0, 1), 0);
            is("not of the other side", x.touches(0, 2), 2 - side);
            x.test(1 - side, 499, 0);
            is("both weapons", x.touches(0, 0), 0);
            is("of the other side, too", x.touches(0, 2), 0);
        }
    }

    @Sentence("A touch is struck if the weapon with which its side fenced the phrase has FAILED; in a bout of a pool, if "
        + "it had FAILED ahead of the drawing of the tableau.")
    static void struckAheadOfTheDrawingOrBehind() {
        Hall x = onPiste(EPEE);
        touch(x, 0);
        x.test(0, 0, 0);
        int third = spare(x, 0);
        x.change(0, third);
        touches(x, 0, 3);
        x.drawTableau();
        is("struck ahead of the drawing", x.touches(0, 0), 0);
        dueScore(x, 0, 3, 0, 0);
        x.begin(101, third, 1);
        touch(x, 0);
        both(x);
        x.test(third, 0, 0);
        is("not struck in the pool", x.touches(0, 1), 1);
        is("still struck in the pool", x.touches(0, 0), 0);
        dueScore(x, 0, 3, 0, 0);
        is("struck in the tableau", x.touches(101, 0), 0);
        is("of two touches in the tableau", x.touches(101, 1), 2);
        dueScore(x, 101, 0, 1, NONE);
        x.test(1, 0, 0);
        is("of the side 1, too", x.touches(101, 1), 0);
        is("the winner of the pool stands", x.rankedAt(0), 0);
    }

    @Sentence("A weapon found false strikes its touches, and what rests on them is fenced again.")
    static void fencedAgain() {
        Hall x = onPiste(EPEE);
        touches(x, 1, 3);
        is("decided", x.winner(0), 1);
        x.test(1, 600, 99);
        dueScore(x, 0, 0, 0, NONE);
        is("the phrases stay", x.phrases(0), 3);
        is("the bout stays on the piste", x.piste(), 0);
        refused(x, "drawTableau()", STATE, Hall::drawTableau);
        x.change(1, spare(x, 1));
        is("it goes on", x.allez(), 3);
        x.halt();
        touches(x, 1, 3);
        dueScore(x, 0, 0, 3, 1);
    }

    @Sentence("A weapon found false strikes its touches, and what rests on them is fenced again.")
    static void strikesInManyBouts() {
        Hall x = hall(EPEE, 12);
        x.drawPools(1);
        int[] bouts = {10, 20, 65};
        for (int bout : bouts) {
            win(x, bout, 1);
        }
        is("won(11)", x.won(11), 3);
        x.test(11, 0, 0);
        for (int bout : bouts) {
            dueScore(x, bout, 0, 0, NONE);
            is("phrases of " + bout, x.phrases(bout), 3);
        }
        is("won(11) then", x.won(11), 0);
    }

    @Sentence("Touches are told from what is kept, and once more from the raw contacts.")
    static void keptAndAnew() {
        Hall x = onPiste(FOIL);
        is("the touch of 1", bothWithRight(x, 1), 2);
        dueScore(x, 0, 0, 1, NONE);
        x.appeal(0, 0);
        dueScore(x, 0, 1, 0, NONE);
        x.test(0, 0, 0);
        dueScore(x, 0, 0, 0, NONE);
        x.appeal(0, 1);
        dueScore(x, 0, 0, 1, NONE);
    }
}
