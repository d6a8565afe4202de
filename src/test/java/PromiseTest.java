/** At least one part for each promise of the document: ordinary inputs, edges and wrong inputs. */
public final class PromiseTest {
    private static final Class<IndexOutOfBoundsException> INDEX = IndexOutOfBoundsException.class;
    private static final Class<IllegalArgumentException> ARGUMENT = IllegalArgumentException.class;
    private static final Class<IllegalStateException> STATE = IllegalStateException.class;
    private static final int NONE = PisteLine.NONE;
    private static final Due DUE = new Due("PromiseTest");

    public static void main(String[] args) {
        promise1NewObject();
        promise2Fencer();
        promise3Weapon();
        promise4Test();
        promises5To7Told();
        promise8Begin();
        promise9Change();
        promise10Allez();
        promise11Contact();
        promise12Right();
        judgingAtEpee();
        judgingAtFoil();
        scores();
        bench();
        telling();
        striking();
        pools();
        tableau();
        goneBouts();
        DUE.end();
    }

    // ---- helpers

    /** A hall in which the weapon w is of the fencer w, and MARKED. */
    private static PisteLine hall(int discipline, int fencers) {
        PisteLine x = new PisteLine(discipline);
        for (int f = 0; f < fencers; f++) {
            x.fencer();
            x.weapon(f);
            x.test(f, 600, 10);
        }
        return x;
    }

    private static PisteLine onPiste(int discipline) {
        PisteLine x = hall(discipline, 2);
        x.drawPools(1);
        x.begin(0, 0, 1);
        return x;
    }

    private static PisteLine fencing(int discipline) {
        PisteLine x = onPiste(discipline);
        x.allez();
        return x;
    }

    private static int touch(PisteLine x, int side) {
        x.allez();
        x.contact(side, true, 0);
        return x.halt();
    }

    private static int both(PisteLine x) {
        x.allez();
        x.contact(0, true, 0);
        x.contact(1, true, 0);
        return x.halt();
    }

    private static void touches(PisteLine x, int side, int count) {
        for (int i = 0; i < count; i++) {
            touch(x, side);
        }
    }

    /** Lets a side win a bout to nothing, with the weapons that have the numbers of the fencers. */
    private static void win(PisteLine x, int bout, int side) {
        x.begin(bout, x.fencerOf(bout, 0), x.fencerOf(bout, 1));
        touches(x, side, bout < 100 ? 3 : 5);
    }

    private static void fencePools(PisteLine x) {
        for (int bout = 0; bout < x.poolBouts(); bout++) {
            win(x, bout, 0);
        }
    }

    /** A tableau in which the fencer f is the seed f + 1. */
    private static PisteLine drawn(int fencers) {
        PisteLine x = hall(PisteLine.EPEE, fencers);
        x.drawPools(1);
        fencePools(x);
        x.drawTableau();
        return x;
    }

    private static int spare(PisteLine x, int fencer) {
        int weapon = x.weapon(fencer);
        x.test(weapon, 600, 0);
        return weapon;
    }

    // ---- promises 1 to 7

    private static void promise1NewObject() {
        PisteLine x = new PisteLine(PisteLine.EPEE);
        DUE.is("1 fencers()", x.fencers(), 0);
        DUE.is("1 piste()", x.piste(), NONE);
        DUE.is("1 isFencing()", x.isFencing(), false);
        DUE.is("1 weaponOf(0)", x.weaponOf(0), NONE);
        DUE.is("1 poolBouts()", x.poolBouts(), 0);
        DUE.is("1 size()", x.size(), 0);
        DUE.is("1 gone()", x.gone(), 0);
        DUE.is("1 NONE", PisteLine.NONE, -1);
        DUE.is("1 EPEE", PisteLine.EPEE, 0);
        DUE.is("1 FOIL", PisteLine.FOIL, 1);
        DUE.is("1 UNTESTED", PisteLine.UNTESTED, 0);
        DUE.is("1 MARKED", PisteLine.MARKED, 1);
        DUE.is("1 FAILED", PisteLine.FAILED, 2);
        int[] disciplines = {0, 1, 2, -1, Integer.MAX_VALUE, Integer.MIN_VALUE};
        for (int discipline : disciplines) {
            PisteLine y = onPiste(discipline);
            // Without the right both have a touch at EPEE, and none at FOIL.
            DUE.is("1 two lights at " + discipline, both(y), discipline == 0 ? 3 : 0);
        }
    }

    private static void promise2Fencer() {
        PisteLine x = new PisteLine(PisteLine.EPEE);
        for (int f = 0; f < 12; f++) {
            DUE.is("2 fencer()", x.fencer(), f);
        }
        DUE.refused(x, "2 a thirteenth fencer()", STATE, x::fencer);
        PisteLine y = hall(PisteLine.EPEE, 2);
        DUE.is("2 fencer() ahead of the pools", y.fencer(), 2);
        y.drawPools(1);
        DUE.refused(y, "2 fencer() behind the pools", STATE, y::fencer);
    }

    private static void promise3Weapon() {
        PisteLine x = new PisteLine(PisteLine.EPEE);
        DUE.refused(x, "3 weapon(0) without fencers", INDEX, () -> x.weapon(0));
        x.fencer();
        x.fencer();
        for (int w = 0; w < 24; w++) {
            DUE.is("3 weapon()", x.weapon(w % 2), w);
            DUE.is("3 mark()", x.mark(w), PisteLine.UNTESTED);
            DUE.is("3 owner()", x.owner(w), w % 2);
        }
        DUE.refused(x, "3 a weapon too much", STATE, () -> x.weapon(0));
        DUE.refused(x, "3 too much, and nobody's", INDEX, () -> x.weapon(2));
        DUE.refused(x, "3 weapon(-1)", INDEX, () -> x.weapon(-1));
        DUE.refused(x, "3 weapon(MIN)", INDEX, () -> x.weapon(Integer.MIN_VALUE));
        PisteLine y = fencing(PisteLine.EPEE);
        DUE.is("3 weapon() in a phrase", y.weapon(1), 2);
    }

    private static void promise4Test() {
        PisteLine x = new PisteLine(PisteLine.EPEE);
        x.fencer();
        int[][] cases = {
            {500, 0, 1}, {770, 15, 1}, {600, 15, 1}, {499, 0, 0}, {771, 0, 0}, {600, 16, 0},
            {0, 0, 0}, {2000, 0, 0}, {600, 100, 0}, {2000, 100, 0},
        };
        for (int[] row : cases) {
            int w = x.weapon(0);
            DUE.is("4 test of " + row[0] + ", " + row[1], x.test(w, row[0], row[1]), row[2] == 1);
            DUE.is("4 mark of it", x.mark(w), row[2] == 1 ? PisteLine.MARKED : PisteLine.FAILED);
        }
        DUE.is("4 a marked one again", x.test(0, 501, 1), true);
        DUE.is("4 a marked one, then false", x.test(0, 501, 16), false);
        DUE.is("4 mark of that", x.mark(0), PisteLine.FAILED);
        DUE.refused(x, "4 a failed one", STATE, () -> x.test(0, 600, 0) ? 1 : 0);
        DUE.refused(x, "4 a failed one, out of range", ARGUMENT, () -> x.test(0, 2001, 0) ? 1 : 0);
        DUE.refused(x, "4 weight -1", ARGUMENT, () -> x.test(1, -1, 0) ? 1 : 0);
        DUE.refused(x, "4 weight 2001", ARGUMENT, () -> x.test(1, 2001, 0) ? 1 : 0);
        DUE.refused(x, "4 travel -1", ARGUMENT, () -> x.test(1, 600, -1) ? 1 : 0);
        DUE.refused(x, "4 travel 101", ARGUMENT, () -> x.test(1, 600, 101) ? 1 : 0);
        DUE.refused(x, "4 no such weapon, out of range", INDEX, () -> x.test(10, -1, -1) ? 1 : 0);
        DUE.refused(x, "4 weapon -1", INDEX, () -> x.test(-1, 600, 0) ? 1 : 0);
        PisteLine y = fencing(PisteLine.EPEE);
        DUE.refused(y, "4 in a phrase", STATE, () -> y.test(0, 600, 0) ? 1 : 0);
        DUE.refused(y, "4 in a phrase, out of range", ARGUMENT, () -> y.test(0, 600, 101) ? 1 : 0);
        y.halt();
        DUE.is("4 behind the phrase", y.test(0, 600, 0), true);
    }

    private static void promises5To7Told() {
        PisteLine x = hall(PisteLine.EPEE, 3);
        x.weapon(1);
        DUE.is("5 fencers()", x.fencers(), 3);
        DUE.is("6 mark(2)", x.mark(2), PisteLine.MARKED);
        DUE.is("6 mark(3)", x.mark(3), PisteLine.UNTESTED);
        DUE.is("7 owner(3)", x.owner(3), 1);
        DUE.is("7 owner(0)", x.owner(0), 0);
        DUE.refused(x, "6 mark(4)", INDEX, () -> x.mark(4));
        DUE.refused(x, "6 mark(-1)", INDEX, () -> x.mark(-1));
        DUE.refused(x, "7 owner(4)", INDEX, () -> x.owner(4));
        DUE.refused(x, "7 owner(-1)", INDEX, () -> x.owner(-1));
    }

    // ---- promises 8 to 13

    private static void promise8Begin() {
        PisteLine x = hall(PisteLine.EPEE, 3);
        DUE.refused(x, "8 ahead of the pools", INDEX, () -> x.begin(0, 0, 1));
        x.drawPools(1);
        int untested = x.weapon(0);
        DUE.is("8 begin()", x.begin(1, 0, 2), 0);
        DUE.is("8 piste()", x.piste(), 1);
        DUE.is("8 weaponOf(0)", x.weaponOf(0), 0);
        DUE.is("8 weaponOf(1)", x.weaponOf(1), 2);
        touch(x, 0);
        DUE.is("8 in place of the one there", x.begin(2, 1, 2), 0);
        DUE.is("8 piste() then", x.piste(), 2);
        DUE.is("8 back again", x.begin(1, 0, 2), 1);
        DUE.refused(x, "8 bout 3", INDEX, () -> x.begin(3, 0, 1));
        DUE.refused(x, "8 bout -1", INDEX, () -> x.begin(-1, 0, 1));
        DUE.refused(x, "8 bout 101 ahead of the tableau", INDEX, () -> x.begin(101, 0, 1));
        DUE.refused(x, "8 weapon 4", INDEX, () -> x.begin(0, 0, 4));
        DUE.refused(x, "8 weapon -1", INDEX, () -> x.begin(0, -1, 1));
        DUE.refused(x, "8 an untested weapon", STATE, () -> x.begin(0, untested, 1));
        DUE.refused(x, "8 a weapon of another one", STATE, () -> x.begin(0, 1, 1));
        DUE.refused(x, "8 the weapons crosswise", STATE, () -> x.begin(0, 1, 0));
        DUE.refused(x, "8 not of the side 1", STATE, () -> x.begin(0, 0, 2));
        x.test(untested, 0, 0);
        DUE.refused(x, "8 a failed weapon", STATE, () -> x.begin(0, untested, 1));
        x.allez();
        DUE.refused(x, "8 in a phrase", STATE, () -> x.begin(0, 0, 1));
        DUE.refused(x, "8 in a phrase, no such weapon", INDEX, () -> x.begin(0, 0, 9));
        x.halt();
        win(x, 0, 1);
        DUE.refused(x, "8 a decided bout", STATE, () -> x.begin(0, 0, 1));
        PisteLine y = drawn(3);
        DUE.refused(y, "8 a side is not known", STATE, () -> y.begin(101, 0, 1));
        DUE.refused(y, "8 a side is nobody", STATE, () -> y.begin(102, 0, 1));
        DUE.is("8 in the tableau", y.begin(103, 1, 2), 0);
    }

    private static void promise9Change() {
        PisteLine x = hall(PisteLine.EPEE, 2);
        int third = spare(x, 0);
        int untested = x.weapon(1);
        DUE.refused(x, "9 the piste is empty", STATE, () -> x.change(0, 0));
        DUE.refused(x, "9 empty, no such side", INDEX, () -> x.change(2, 0));
        x.drawPools(1);
        x.begin(0, 0, 1);
        DUE.is("9 change()", x.change(0, third), 0);
        DUE.is("9 weaponOf(0)", x.weaponOf(0), third);
        DUE.is("9 weaponOf(1)", x.weaponOf(1), 1);
        DUE.is("9 the same again", x.change(0, third), third);
        DUE.refused(x, "9 untested", STATE, () -> x.change(1, untested));
        DUE.refused(x, "9 of the other one", STATE, () -> x.change(1, 0));
        DUE.refused(x, "9 side -1", INDEX, () -> x.change(-1, 0));
        DUE.refused(x, "9 side 2", INDEX, () -> x.change(2, 0));
        DUE.refused(x, "9 weapon 4", INDEX, () -> x.change(0, 4));
        DUE.refused(x, "9 weapon -1", INDEX, () -> x.change(0, -1));
        x.allez();
        DUE.refused(x, "9 in a phrase", STATE, () -> x.change(0, 0));
        DUE.refused(x, "9 in a phrase, no such weapon", INDEX, () -> x.change(0, 4));
        x.contact(0, true, 0);
        x.halt();
        // The phrase keeps the weapon with which it was fenced, whatever is taken behind it.
        DUE.is("9 change() back", x.change(0, 0), third);
        x.test(0, 0, 0);
        DUE.is("9 the touch of the other weapon stands", x.score(0, 0), 1);
        DUE.refused(x, "9 a failed weapon", STATE, () -> x.change(0, 0));
        DUE.is("9 instead of a failed one", x.change(0, third), 0);
        touches(x, 0, 2);
        DUE.is("9 also when the bout is decided", x.change(0, third), third);
    }

    private static void promise10Allez() {
        PisteLine x = hall(PisteLine.EPEE, 2);
        DUE.refused(x, "10 the piste is empty", STATE, x::allez);
        x.drawPools(1);
        x.begin(0, 0, 1);
        DUE.is("10 allez()", x.allez(), 0);
        DUE.is("10 isFencing()", x.isFencing(), true);
        DUE.refused(x, "10 a phrase is on", STATE, x::allez);
        x.halt();
        DUE.is("10 isFencing() then", x.isFencing(), false);
        DUE.is("10 the next one", x.allez(), 1);
        x.halt();
        x.test(0, 0, 0);
        DUE.refused(x, "10 a weapon has failed", STATE, x::allez);
        x.change(0, spare(x, 0));
        touches(x, 1, 3);
        DUE.refused(x, "10 the bout is decided", STATE, x::allez);
        PisteLine y = onPiste(PisteLine.EPEE);
        for (int i = 0; i < 12; i++) {
            DUE.is("10 phrase", y.allez(), i);
            DUE.is("10 open in the phrase", y.winner(0), NONE);
            y.halt();
        }
        DUE.refused(y, "10 twelve phrases", STATE, y::allez);
        PisteLine z = onPiste(PisteLine.EPEE);
        z.test(1, 0, 0);
        DUE.refused(z, "10 the weapon of the side 1 has failed", STATE, z::allez);
    }

    private static void promise11Contact() {
        PisteLine x = onPiste(PisteLine.EPEE);
        DUE.refused(x, "11 no phrase is on", STATE, () -> x.contact(0, true, 0));
        DUE.refused(x, "11 none on, time -1", ARGUMENT, () -> x.contact(0, true, -1));
        DUE.refused(x, "11 none on, side 2", INDEX, () -> x.contact(2, true, -1));
        x.allez();
        DUE.is("11 contact()", x.contact(0, false, 0), 1);
        DUE.is("11 contact()", x.contact(1, false, 7), 2);
        DUE.is("11 at the same time", x.contact(1, false, 7), 3);
        DUE.refused(x, "11 earlier", ARGUMENT, () -> x.contact(0, true, 6));
        DUE.refused(x, "11 time -1", ARGUMENT, () -> x.contact(0, true, -1));
        DUE.refused(x, "11 side -1", INDEX, () -> x.contact(-1, true, 8));
        DUE.refused(x, "11 side 2, time -1", INDEX, () -> x.contact(2, true, -1));
        DUE.is("11 behind what was refused", x.contact(0, false, 8), 4);
        DUE.is("11 right() counts, too", x.right(0, 9), 5);
        DUE.refused(x, "11 earlier than the right", ARGUMENT, () -> x.contact(0, true, 8));
        for (int i = 6; i <= 8; i++) {
            DUE.is("11 contact()", x.contact(0, false, Integer.MAX_VALUE), i);
        }
        DUE.refused(x, "11 a ninth", STATE, () -> x.contact(0, true, Integer.MAX_VALUE));
        DUE.refused(x, "11 a ninth, earlier", ARGUMENT, () -> x.contact(0, true, 5));
        DUE.refused(x, "11 a ninth of the side 3", INDEX, () -> x.contact(3, true, 5));
        DUE.is("11 none was on the target", x.halt(), 0);
        x.allez();
        DUE.is("11 a new phrase begins anew", x.contact(0, true, 3), 1);
        DUE.refused(x, "11 earlier than the first one", ARGUMENT, () -> x.contact(1, true, 2));
    }

    private static void promise12Right() {
        PisteLine x = onPiste(PisteLine.FOIL);
        DUE.refused(x, "12 no phrase is on", STATE, () -> x.right(0, 0));
        DUE.refused(x, "12 none on, time -1", ARGUMENT, () -> x.right(0, -1));
        x.allez();
        DUE.is("12 right(1)", x.right(1, 4), 1);
        DUE.is("12 right(0)", x.right(0, 4), 2);
        DUE.is("12 right(NONE)", x.right(NONE, 5), 3);
        DUE.refused(x, "12 earlier", ARGUMENT, () -> x.right(0, 4));
        DUE.refused(x, "12 side 2", ARGUMENT, () -> x.right(2, 9));
        DUE.refused(x, "12 side -2", ARGUMENT, () -> x.right(-2, 9));
        DUE.refused(x, "12 time -1", ARGUMENT, () -> x.right(0, -1));
        DUE.is("12 a contact counts, too", x.contact(0, true, 6), 4);
        DUE.refused(x, "12 earlier than the contact", ARGUMENT, () -> x.right(0, 5));
        for (int i = 5; i <= 8; i++) {
            DUE.is("12 right()", x.right(1, 6), i);
        }
        DUE.refused(x, "12 a ninth", STATE, () -> x.right(1, 6));
        DUE.refused(x, "12 a ninth, side 2", ARGUMENT, () -> x.right(2, 6));
        DUE.is("12 halt()", x.halt(), 1);
    }

    private static void judgingAtEpee() {
        PisteLine x = onPiste(PisteLine.EPEE);
        DUE.refused(x, "13 no phrase is on", STATE, x::halt);
        x.allez();
        DUE.is("13 without events", x.halt(), 0);
        DUE.refused(x, "13 halt() again", STATE, x::halt);
        DUE.is("13 phrases()", x.phrases(0), 1);
        DUE.is("13 one light", judge(0, "0+5"), 1);
        DUE.is("13 the other light", judge(0, "1+5"), 2);
        DUE.is("13 off the target", judge(0, "0-5 1-6"), 0);
        DUE.is("13 in the lock-out", judge(0, "0+100 1+140"), 3);
        DUE.is("13 behind the lock-out", judge(0, "0+100 1+141"), 1);
        DUE.is("13 the side 1 leads", judge(0, "1+0 0+41"), 2);
        DUE.is("13 an off one doesn't begin it", judge(0, "0-0 1+50 0+90"), 3);
        DUE.is("13 an off one doesn't stop a later one", judge(0, "0+0 1-1 1+40"), 3);
        DUE.is("13 more of the same side", judge(0, "0+0 0+30 1+41"), 1);
        DUE.is("13 the right is nothing here", judge(0, "r1 0+5 1+6"), 3);
        int late = Integer.MAX_VALUE;
        DUE.is("13 at the end of time", judge(0, "0+" + (late - 40) + " 1+" + late), 3);
        DUE.is("13 at the end of time, too late", judge(0, "0+" + (late - 41) + " 1+" + late), 1);
        DUE.is("13 from 0 to the end of time", judge(0, "0+0 1+" + late), 1);
    }

    private static void judgingAtFoil() {
        DUE.is("13 one light on", judge(1, "0+5"), 1);
        DUE.is("13 one light off", judge(1, "0-5 0+6"), 0);
        DUE.is("13 one light, the other had the right", judge(1, "r1 0+5"), 1);
        DUE.is("13 nobody has the right", judge(1, "0+5 1+6"), 0);
        DUE.is("13 the side 0 has it", judge(1, "r0 1+5 0+6"), 1);
        DUE.is("13 the side 1 has it", judge(1, "r1 0+5 1+305"), 2);
        DUE.is("13 behind the lock-out", judge(1, "r1 0+5 1+306"), 1);
        DUE.is("13 off behind the lock-out", judge(1, "0-5 1+306"), 0);
        DUE.is("13 the right, but off", judge(1, "r1 0+5 1-6 1+7"), 0);
        DUE.is("13 the other one is off", judge(1, "r0 1-5 0+6"), 1);
        DUE.is("13 the latest right holds", judge(1, "r0 r1 0+5 1+6"), 2);
        DUE.is("13 taken back", judge(1, "r0 rN 0+5 1+6"), 0);
        DUE.is("13 the right comes too late", judge(1, "0+0 r0 1+0"), 0);
        DUE.is("13 the right behind the light", judge(1, "r1 0+0 r0 1+0"), 2);
        DUE.is("13 between two of the same side", judge(1, "r0 0+0 r1 0+1 1+2"), 1);
        int late = Integer.MAX_VALUE;
        DUE.is("13 at the end of time", judge(1, "r1 0+" + (late - 300) + " 1+" + late), 2);
        DUE.is("13 at the end of time, too late", judge(1, "r1 0+" + (late - 301) + " 1+" + late), 1);
    }

    /** Judges a phrase: 0+5 is a contact of the side 0 on the target at 5, 0-5 one off it; r1 is the right. */
    private static int judge(int discipline, String events) {
        PisteLine x = fencing(discipline);
        for (String event : events.split(" ")) {
            if (event.charAt(0) == 'r') {
                x.right(event.charAt(1) == 'N' ? NONE : event.charAt(1) - '0', 0);
            } else {
                int time = Integer.parseInt(event.substring(2));
                x.contact(event.charAt(0) - '0', event.charAt(1) == '+', time);
            }
        }
        int touches = x.halt();
        DUE.is("23 touches() of " + events, x.touches(0, 0), touches);
        DUE.is("19 score of 0 of " + events, x.score(0, 0), touches & 1);
        DUE.is("19 score of 1 of " + events, x.score(0, 1), touches >> 1);
        DUE.is("20 anew of 0 of " + events, x.scoreAnew(0, 0), touches & 1);
        DUE.is("20 anew of 1 of " + events, x.scoreAnew(0, 1), touches >> 1);
        return touches;
    }

    // ---- promises 14 to 24

    private static void scores() {
        PisteLine x = onPiste(PisteLine.EPEE);
        dueScore(x, 0, 0, 0, NONE);
        both(x);
        dueScore(x, 0, 1, 1, NONE);
        both(x);
        dueScore(x, 0, 2, 2, NONE);
        DUE.is("19 both would come to the goal", both(x), 3);
        dueScore(x, 0, 2, 2, NONE);
        touch(x, 1);
        dueScore(x, 0, 2, 3, 1);
        PisteLine y = onPiste(PisteLine.EPEE);
        touch(y, 0);
        touch(y, 0);
        touch(y, 1);
        both(y);
        dueScore(y, 0, 3, 2, 0);
        PisteLine z = onPiste(PisteLine.EPEE);
        for (int i = 0; i < 12; i++) {
            dueScore(z, 0, 0, 0, NONE);
            z.allez();
            z.halt();
        }
        dueScore(z, 0, 0, 0, 0);
        PisteLine w = onPiste(PisteLine.EPEE);
        touch(w, 1);
        for (int i = 0; i < 11; i++) {
            dueScore(w, 0, 0, 1, NONE);
            w.allez();
            w.halt();
        }
        dueScore(w, 0, 0, 1, 1);
        PisteLine v = drawn(2);
        v.begin(101, 0, 1);
        for (int i = 1; i <= 4; i++) {
            both(v);
            dueScore(v, 101, i, i, NONE);
        }
        both(v);
        dueScore(v, 101, 4, 4, NONE);
        touch(v, 0);
        dueScore(v, 101, 5, 4, 0);
    }

    private static void dueScore(PisteLine x, int bout, int first, int second, int winner) {
        DUE.is("19 score(" + bout + ", 0)", x.score(bout, 0), first);
        DUE.is("19 score(" + bout + ", 1)", x.score(bout, 1), second);
        DUE.is("20 scoreAnew(" + bout + ", 0)", x.scoreAnew(bout, 0), first);
        DUE.is("20 scoreAnew(" + bout + ", 1)", x.scoreAnew(bout, 1), second);
        DUE.is("21 winner(" + bout + ")", x.winner(bout), winner);
    }

    private static PisteLine twoLights() {
        PisteLine x = onPiste(PisteLine.FOIL);
        x.allez();
        x.right(1, 0);
        x.contact(0, true, 5);
        x.contact(1, true, 6);
        x.halt();
        return x;
    }

    private static void bench() {
        PisteLine x = twoLights();
        DUE.is("14 the other one had it", x.appeal(0, 0), 1);
        dueScore(x, 0, 1, 0, NONE);
        DUE.is("24 not used up", x.appeals(0, 0), 2);
        DUE.is("14 the same", x.appeal(0, 0), 1);
        DUE.is("24 used up", x.appeals(0, 0), 1);
        DUE.is("24 of the other one", x.appeals(0, 1), 2);
        DUE.is("14 none had it", x.appeal(1, NONE), 0);
        DUE.is("14 what it told last holds", x.appeal(1, 1), 2);
        DUE.is("24 none used up", x.appeals(0, 1), 2);
        DUE.is("14 the same again", x.appeal(0, 1), 2);
        DUE.is("24 both used up", x.appeals(0, 0), 0);
        DUE.refused(x, "14 no appeal left", STATE, () -> x.appeal(0, 0));
        DUE.refused(x, "14 none left, right 2", ARGUMENT, () -> x.appeal(0, 2));
        DUE.refused(x, "14 right -2", ARGUMENT, () -> x.appeal(1, -2));
        DUE.refused(x, "14 side 2, right 2", INDEX, () -> x.appeal(2, 2));
        DUE.refused(x, "14 side -1", INDEX, () -> x.appeal(-1, 0));
        DUE.is("14 the other side still can", x.appeal(1, 0), 1);
        x.allez();
        DUE.refused(x, "14 a phrase is on", STATE, () -> x.appeal(1, 0));
        x.halt();
        DUE.is("14 one without lights", x.appeal(1, 0), 0);
        DUE.is("24 uses it up", x.appeals(0, 1), 1);
        DUE.is("14 only the latest phrase", x.touches(0, 0), 1);
        x.begin(0, 0, 1);
        DUE.refused(x, "14 it has come onto the piste anew", STATE, () -> x.appeal(1, 0));
        DUE.is("24 the appeals stay used", x.appeals(0, 1), 1);
        PisteLine y = hall(PisteLine.FOIL, 2);
        DUE.refused(y, "14 the piste is empty", STATE, () -> y.appeal(0, 0));
        y.drawPools(1);
        y.begin(0, 0, 1);
        DUE.refused(y, "14 no phrase has ended", STATE, () -> y.appeal(0, 0));
        benchAtTheEnd();
        benchAtEpee();
    }

    private static void benchAtTheEnd() {
        PisteLine x = twoLights();
        touch(x, 1);
        x.allez();
        x.right(1, 0);
        x.contact(1, true, 5);
        x.contact(0, true, 6);
        x.halt();
        dueScore(x, 0, 0, 3, 1);
        DUE.is("14 as to the one that decided", x.appeal(0, NONE), 0);
        dueScore(x, 0, 0, 2, NONE);
        DUE.is("14 and it goes on", x.allez(), 3);
        x.halt();
        touch(x, 1);
        dueScore(x, 0, 0, 3, 1);
        // One light alone is a touch whoever had the right.
        DUE.is("14 one light", x.appeal(0, 0), 2);
        DUE.is("24 that is used up", x.appeals(0, 0), 1);
    }

    private static void benchAtEpee() {
        PisteLine x = onPiste(PisteLine.EPEE);
        both(x);
        DUE.is("14 at EPEE", x.appeal(1, 0), 3);
        DUE.is("24 it is used up", x.appeals(0, 1), 1);
        PisteLine y = twoLights();
        y.test(1, 0, 0);
        DUE.is("14 a struck touch", y.touches(0, 0), 0);
        DUE.is("14 struck as before", y.appeal(0, NONE), 0);
        DUE.is("24 so it is used up", y.appeals(0, 0), 1);
        DUE.is("14 not struck", y.appeal(0, 0), 1);
        DUE.is("24 not used up", y.appeals(0, 0), 1);
    }

    private static void telling() {
        PisteLine x = hall(PisteLine.EPEE, 3);
        x.drawPools(1);
        DUE.is("15 piste()", x.piste(), NONE);
        DUE.is("17 weaponOf(1)", x.weaponOf(1), NONE);
        x.begin(2, 1, 2);
        DUE.is("15 piste() then", x.piste(), 2);
        DUE.is("16 isFencing()", x.isFencing(), false);
        DUE.is("17 weaponOf(0) then", x.weaponOf(0), 1);
        DUE.is("17 weaponOf(1) then", x.weaponOf(1), 2);
        DUE.refused(x, "17 weaponOf(2)", INDEX, () -> x.weaponOf(2));
        DUE.refused(x, "17 weaponOf(-1)", INDEX, () -> x.weaponOf(-1));
        x.allez();
        DUE.is("16 isFencing() then", x.isFencing(), true);
        DUE.is("22 not the one that is on", x.phrases(2), 0);
        x.contact(1, true, 3);
        DUE.is("19 not what is on", x.score(2, 1), 0);
        DUE.is("20 not what is on", x.scoreAnew(2, 1), 0);
        DUE.refused(x, "23 not the one that is on", INDEX, () -> x.touches(2, 0));
        x.halt();
        DUE.is("22 phrases()", x.phrases(2), 1);
        DUE.is("23 touches()", x.touches(2, 0), 2);
        DUE.refused(x, "23 phrase 1", INDEX, () -> x.touches(2, 1));
        DUE.refused(x, "23 phrase -1", INDEX, () -> x.touches(2, -1));
        DUE.refused(x, "23 phrase 12", INDEX, () -> x.touches(2, 12));
        DUE.is("18 fencerOf(1, 1)", x.fencerOf(1, 1), 2);
        DUE.is("24 appeals(0, 1)", x.appeals(0, 1), 2);
        int[] none = {-1, 3, 66, 100, 101, 116, Integer.MAX_VALUE, Integer.MIN_VALUE};
        for (int bout : none) {
            noSuchBout(x, bout);
        }
        int[] wrongSides = {-1, 2, Integer.MAX_VALUE};
        for (int side : wrongSides) {
            DUE.refused(x, "18 fencerOf()", INDEX, () -> x.fencerOf(0, side));
            DUE.refused(x, "19 score()", INDEX, () -> x.score(0, side));
            DUE.refused(x, "20 scoreAnew()", INDEX, () -> x.scoreAnew(0, side));
            DUE.refused(x, "24 appeals()", INDEX, () -> x.appeals(0, side));
        }
    }

    private static void noSuchBout(PisteLine x, int bout) {
        DUE.refused(x, "18 fencerOf(" + bout + ", 0)", INDEX, () -> x.fencerOf(bout, 0));
        DUE.refused(x, "19 score(" + bout + ", 0)", INDEX, () -> x.score(bout, 0));
        DUE.refused(x, "20 scoreAnew(" + bout + ", 0)", INDEX, () -> x.scoreAnew(bout, 0));
        DUE.refused(x, "21 winner(" + bout + ")", INDEX, () -> x.winner(bout));
        DUE.refused(x, "22 phrases(" + bout + ")", INDEX, () -> x.phrases(bout));
        DUE.refused(x, "23 touches(" + bout + ", 0)", INDEX, () -> x.touches(bout, 0));
        DUE.refused(x, "24 appeals(" + bout + ", 0)", INDEX, () -> x.appeals(bout, 0));
        DUE.refused(x, "8 begin(" + bout + ")", INDEX, () -> x.begin(bout, 0, 1));
    }

    private static void striking() {
        PisteLine x = onPiste(PisteLine.EPEE);
        int other = spare(x, 0);
        both(x);
        both(x);
        both(x);
        x.change(0, other);
        touch(x, 0);
        dueScore(x, 0, 3, 2, 0);
        // The touch of the third phrase is no longer a double one, and decides the bout there.
        x.test(0, 2000, 0);
        DUE.is("23 the side 0 is struck", x.touches(0, 0), 2);
        DUE.is("23 behind the decision", x.touches(0, 3), 1);
        dueScore(x, 0, 0, 3, 1);
        DUE.is("17 the piste is as it was", x.weaponOf(0), other);
        DUE.is("14 the latest one, behind the decision", x.appeal(0, 0), 1);
        DUE.is("24 it is used up", x.appeals(0, 0), 1);
        PisteLine y = onPiste(PisteLine.EPEE);
        touches(y, 1, 3);
        y.test(1, 600, 99);
        dueScore(y, 0, 0, 0, NONE);
        DUE.is("22 the phrases stay", y.phrases(0), 3);
        DUE.is("17 a failed weapon stays there", y.weaponOf(1), 1);
        y.change(1, spare(y, 1));
        DUE.is("10 it goes on", y.allez(), 3);
    }

    // ---- promises 25 to 29

    private static void pools() {
        promise25DrawPools();
        promises26To29Ranks();
        ranksAreExact();
        ranksByIndexAndTouches();
    }

    private static void promise25DrawPools() {
        PisteLine x = hall(PisteLine.EPEE, 5);
        DUE.refused(x, "25 drawPools(0)", ARGUMENT, () -> x.drawPools(0));
        DUE.refused(x, "25 drawPools(5)", ARGUMENT, () -> x.drawPools(5));
        DUE.refused(x, "25 drawPools(-1)", ARGUMENT, () -> x.drawPools(-1));
        DUE.refused(x, "25 drawPools(3) of 5", STATE, () -> x.drawPools(3));
        DUE.is("25 drawPools(2)", x.drawPools(2), 4);
        int[][] pairs = {{0, 2}, {0, 4}, {2, 4}, {1, 3}};
        for (int bout = 0; bout < pairs.length; bout++) {
            DUE.is("25 side 0 of " + bout, x.fencerOf(bout, 0), pairs[bout][0]);
            DUE.is("25 side 1 of " + bout, x.fencerOf(bout, 1), pairs[bout][1]);
        }
        DUE.refused(x, "25 once more", STATE, () -> x.drawPools(2));
        DUE.refused(x, "25 once more, out of range", ARGUMENT, () -> x.drawPools(9));
        int[][] counts = {{12, 1, 66}, {12, 4, 12}, {12, 3, 18}, {11, 4, 10}, {8, 4, 4}, {7, 3, 5}, {2, 1, 1}};
        for (int[] row : counts) {
            PisteLine y = hall(PisteLine.EPEE, row[0]);
            DUE.is("26 none yet", y.poolBouts(), 0);
            DUE.is("25 drawPools(" + row[1] + ") of " + row[0], y.drawPools(row[1]), row[2]);
            DUE.is("26 poolBouts()", y.poolBouts(), row[2]);
        }
        PisteLine z = hall(PisteLine.EPEE, 12);
        z.drawPools(1);
        int bout = 0;
        for (int low = 0; low < 12; low++) {
            for (int high = low + 1; high < 12; high++) {
                DUE.is("25 the lower one of " + bout, z.fencerOf(bout, 0), low);
                DUE.is("25 the higher one of " + bout, z.fencerOf(bout, 1), high);
                bout++;
            }
        }
        PisteLine w = hall(PisteLine.EPEE, 1);
        DUE.refused(w, "25 one fencer", STATE, () -> w.drawPools(1));
        PisteLine v = new PisteLine(PisteLine.EPEE);
        DUE.refused(v, "25 no fencer", STATE, () -> v.drawPools(1));
        PisteLine u = hall(PisteLine.EPEE, 7);
        DUE.refused(u, "25 drawPools(4) of 7", STATE, () -> u.drawPools(4));
    }

    private static void promises26To29Ranks() {
        PisteLine x = hall(PisteLine.EPEE, 3);
        PisteLine empty = new PisteLine(PisteLine.EPEE);
        DUE.refused(empty, "29 nobody", INDEX, () -> empty.rankedAt(0));
        DUE.is("29 ahead of the pools", x.rankedAt(1), 1);
        DUE.is("27 ahead of the pools", x.won(2), 0);
        DUE.is("28 ahead of the pools", x.index(2), 0);
        x.drawPools(1);
        x.begin(2, 1, 2);
        touches(x, 1, 2);
        touch(x, 0);
        DUE.is("27 an open bout", x.won(2), 0);
        DUE.is("28 an open bout", x.index(2), 0);
        dueRanks(x, 0, 1, 2);
        touch(x, 1);
        DUE.is("27 won(2)", x.won(2), 1);
        DUE.is("27 won(1)", x.won(1), 0);
        DUE.is("28 index(2)", x.index(2), 2);
        DUE.is("28 index(1)", x.index(1), -2);
        dueRanks(x, 2, 0, 1);
        x.test(2, 0, 0);
        DUE.is("27 it is open again", x.won(2), 0);
        DUE.is("28 it is open again", x.index(1), 0);
        dueRanks(x, 0, 1, 2);
        int[] none = {-1, 3, 12, Integer.MIN_VALUE};
        for (int f : none) {
            DUE.refused(x, "27 won(" + f + ")", INDEX, () -> x.won(f));
            DUE.refused(x, "28 index(" + f + ")", INDEX, () -> x.index(f));
            DUE.refused(x, "29 rankedAt(" + f + ")", INDEX, () -> x.rankedAt(f));
        }
    }

    private static void dueRanks(PisteLine x, int... fencers) {
        for (int place = 0; place < fencers.length; place++) {
            DUE.is("29 rankedAt(" + place + ")", x.rankedAt(place), fencers[place]);
        }
    }

    private static void ranksAreExact() {
        PisteLine x = hall(PisteLine.EPEE, 7);
        x.drawPools(2);
        // The pool 0 has 0, 2, 4, 6 with the bouts 0 to 5, the pool 1 has 1, 3, 5 with 6 to 8.
        win(x, 0, 0);
        win(x, 1, 0);
        win(x, 2, 1);
        win(x, 6, 1);
        DUE.is("27 of three", x.won(0), 2);
        DUE.is("28 of three", x.index(0), 3);
        // Quotients: 0 has 2/3, 6 and 3 have 1/1, all others 0; of these 5 has the index 0.
        dueRanks(x, 3, 6, 0, 5, 1, 2, 4);
        win(x, 7, 0);
        // The fencer 1 has 1/2 now, and the index 0; the fencer 0 stays ahead with 2/3.
        dueRanks(x, 3, 6, 0, 1, 2, 4, 5);
        win(x, 8, 1);
        // The fencers 1, 3 and 5 have 1/2 and the index 0, with 3 touches given each.
        dueRanks(x, 6, 0, 1, 3, 5, 2, 4);
    }

    private static void ranksByIndexAndTouches() {
        PisteLine x = hall(PisteLine.EPEE, 6);
        x.drawPools(3);
        // The bouts 0: 0 and 3; 1: 1 and 4; 2: 2 and 5.
        x.begin(0, 0, 3);
        touch(x, 1);
        touches(x, 0, 3);
        x.begin(1, 1, 4);
        both(x);
        touches(x, 1, 2);
        x.begin(2, 2, 5);
        touch(x, 0);
        touches(x, 1, 3);
        dueRanks(x, 0, 4, 5, 1, 2, 3);
        PisteLine y = hall(PisteLine.EPEE, 4);
        y.drawPools(2);
        y.begin(0, 0, 2);
        touches(y, 0, 2);
        both(y);
        y.begin(1, 1, 3);
        touches(y, 0, 3);
        DUE.is("28 index(0)", y.index(0), 2);
        DUE.is("28 index(1)", y.index(1), 3);
        dueRanks(y, 1, 0, 2, 3);
        PisteLine z = hall(PisteLine.EPEE, 4);
        z.drawPools(2);
        // Both win by 2: the fencer 0 by 2 to 0 in twelve phrases, the fencer 1 by 3 to 1.
        z.begin(0, 0, 2);
        touches(z, 0, 2);
        for (int i = 0; i < 10; i++) {
            z.allez();
            z.halt();
        }
        z.begin(1, 1, 3);
        touch(z, 1);
        touches(z, 0, 3);
        DUE.is("28 the same index", z.index(0), z.index(1));
        dueRanks(z, 1, 0, 3, 2);
    }

    // ---- promises 30 to 33

    private static void tableau() {
        promise30DrawTableau();
        promises31And32Nodes();
        seedsOfSixteen();
        poolsStand();
    }

    private static void promise30DrawTableau() {
        PisteLine x = hall(PisteLine.EPEE, 3);
        DUE.refused(x, "30 the pools are not drawn", STATE, x::drawTableau);
        x.drawPools(1);
        DUE.refused(x, "30 bouts are open", STATE, x::drawTableau);
        for (int open = 0; open < 3; open++) {
            PisteLine y = hall(PisteLine.EPEE, 3);
            y.drawPools(1);
            win(y, open == 0 ? 1 : 0, 0);
            win(y, open == 2 ? 1 : 2, 0);
            DUE.refused(y, "30 just the bout " + open + " is open", STATE, y::drawTableau);
        }
        win(x, 0, 0);
        win(x, 2, 0);
        x.begin(1, 0, 2);
        touches(x, 0, 2);
        x.allez();
        x.contact(0, true, 1);
        DUE.refused(x, "30 a phrase is on", STATE, x::drawTableau);
        x.halt();
        DUE.is("31 not drawn", x.size(), 0);
        DUE.is("15 on the piste", x.piste(), 1);
        DUE.is("30 drawTableau()", x.drawTableau(), 4);
        DUE.is("31 size()", x.size(), 4);
        DUE.is("15 the piste is empty then", x.piste(), NONE);
        DUE.is("17 no weapon there", x.weaponOf(0), NONE);
        DUE.refused(x, "14 nothing to appeal as to", STATE, () -> x.appeal(0, 0));
        DUE.refused(x, "30 it is drawn", STATE, x::drawTableau);
        DUE.refused(x, "8 a pool's bout", STATE, () -> x.begin(0, 0, 1));
        int[][] sizes = {{2, 2, 0}, {3, 4, 1}, {4, 4, 1}, {5, 8, 2}, {8, 8, 2}, {9, 16, 5}, {12, 16, 5}};
        for (int[] row : sizes) {
            PisteLine y = drawn(row[0]);
            DUE.is("31 size() of " + row[0], y.size(), row[1]);
            DUE.refused(y, "32 one node too much", INDEX, () -> y.nodeWinner(2 * row[1]));
            DUE.refused(y, "18 one bout too much", INDEX, () -> y.fencerOf(100 + row[1], 0));
            DUE.is("18 the highest bout", y.fencerOf(99 + row[1], 0), row[2]);
        }
    }

    private static void promises31And32Nodes() {
        PisteLine before = hall(PisteLine.EPEE, 2);
        DUE.refused(before, "32 not drawn", INDEX, () -> before.nodeWinner(1));
        PisteLine x = drawn(5);
        int[] leaves = {0, NONE, 3, 4, 1, NONE, 2, NONE};
        for (int i = 0; i < 8; i++) {
            DUE.is("32 nodeWinner(" + (8 + i) + ")", x.nodeWinner(8 + i), leaves[i]);
        }
        int[] inner = {NONE, NONE, NONE, 0, NONE, 1, 2};
        for (int i = 0; i < 7; i++) {
            DUE.is("32 nodeWinner(" + (1 + i) + ")", x.nodeWinner(1 + i), inner[i]);
            DUE.is("21 winner(" + (101 + i) + ")", x.winner(101 + i), inner[i]);
        }
        DUE.is("18 nobody", x.fencerOf(104, 1), NONE);
        DUE.is("18 not known", x.fencerOf(102, 1), NONE);
        DUE.is("18 known", x.fencerOf(103, 1), 2);
        DUE.is("19 without a bout", x.score(104, 0), 0);
        DUE.is("22 without a bout", x.phrases(104), 0);
        DUE.is("24 without a bout", x.appeals(104, 0), 2);
        DUE.refused(x, "32 node 0", INDEX, () -> x.nodeWinner(0));
        DUE.refused(x, "32 node -1", INDEX, () -> x.nodeWinner(-1));
        DUE.refused(x, "32 node 16", INDEX, () -> x.nodeWinner(16));
        win(x, 105, 1);
        DUE.is("32 behind its bout", x.nodeWinner(5), 4);
        DUE.is("18 in the bout above", x.fencerOf(102, 1), 4);
        win(x, 103, 0);
        win(x, 102, 1);
        win(x, 101, 1);
        DUE.is("32 the tableau is won", x.nodeWinner(1), 1);
        DUE.is("21 the tableau is won", x.winner(101), 1);
        DUE.is("33 none is gone", x.gone(), 0);
    }

    private static void seedsOfSixteen() {
        PisteLine x = drawn(12);
        int[] row = {1, 16, 8, 9, 4, 13, 5, 12, 2, 15, 7, 10, 3, 14, 6, 11};
        for (int i = 0; i < 16; i++) {
            DUE.is("30 the leaf " + (16 + i), x.nodeWinner(16 + i), row[i] > 12 ? NONE : row[i] - 1);
        }
        PisteLine y = hall(PisteLine.EPEE, 4);
        y.drawPools(1);
        for (int bout = 0; bout < 6; bout++) {
            win(y, bout, 1);
        }
        y.drawTableau();
        int[] turned = {3, 0, 2, 1};
        for (int i = 0; i < 4; i++) {
            DUE.is("30 the places are the seeds", y.nodeWinner(4 + i), turned[i]);
        }
    }

    private static void poolsStand() {
        PisteLine x = drawn(4);
        String ranks = ranks(x);
        x.test(0, 0, 0);
        DUE.is("6 it has failed", x.mark(0), PisteLine.FAILED);
        dueScore(x, 0, 3, 0, 0);
        DUE.is("23 not struck in the pool", x.touches(0, 0), 1);
        DUE.same("29 the ranks stand", ranks(x), ranks);
        DUE.is("32 the leaves stand", x.nodeWinner(4), 0);
        PisteLine y = hall(PisteLine.EPEE, 2);
        y.drawPools(1);
        y.begin(0, 0, 1);
        touch(y, 0);
        y.test(0, 0, 0);
        y.change(0, spare(y, 0));
        touches(y, 1, 3);
        y.drawTableau();
        DUE.is("23 struck ahead of the tableau", y.touches(0, 0), 0);
        dueScore(y, 0, 0, 3, 1);
    }

    private static String ranks(PisteLine x) {
        StringBuilder text = new StringBuilder();
        for (int place = 0; place < x.fencers(); place++) {
            int fencer = x.rankedAt(place);
            text.append(fencer).append(" won ").append(x.won(fencer)).append(" index ").append(x.index(fencer));
        }
        return text.toString();
    }

    private static void goneBouts() {
        goneFurtherAbove();
        goneByAnotherWinner();
        goneByTheBench();
        goneWithoutPhrases();
        struckInTheFinal();
        oneSideKnown();
    }

    private static void goneFurtherAbove() {
        PisteLine x = drawn(8);
        win(x, 104, 0);
        win(x, 105, 0);
        int first = x.fencerOf(104, 0);
        win(x, 102, 1);
        win(x, 106, 0);
        win(x, 107, 0);
        win(x, 103, 0);
        x.begin(101, x.fencerOf(101, 0), x.fencerOf(101, 1));
        touch(x, 0);
        DUE.is("33 none yet", x.gone(), 0);
        x.test(first, 0, 0);
        // The winner of 104 is not known any more: 102 is gone, and 101, which rested on it.
        dueScore(x, 104, 0, 0, NONE);
        DUE.is("33 two are gone", x.gone(), 2);
        DUE.is("22 the phrases of 104 stay", x.phrases(104), 5);
        DUE.is("22 those of 102 are gone", x.phrases(102), 0);
        DUE.is("22 those of 101, too", x.phrases(101), 0);
        DUE.is("22 those of 103 stay", x.phrases(103), 5);
        DUE.is("15 the piste is empty", x.piste(), NONE);
        DUE.is("17 no weapon there", x.weaponOf(1), NONE);
        DUE.is("18 not known", x.fencerOf(102, 0), NONE);
        DUE.is("18 still known", x.fencerOf(102, 1), x.fencerOf(105, 0));
        DUE.is("32 not known", x.nodeWinner(2), NONE);
        DUE.is("32 nor above", x.nodeWinner(1), NONE);
        DUE.is("18 the other half is known", x.fencerOf(101, 1), x.fencerOf(103, 0));
        DUE.refused(x, "8 a side is not known", STATE, () -> x.begin(102, 1, 2));
        DUE.refused(x, "14 nothing to appeal as to", STATE, () -> x.appeal(0, 0));
        x.begin(104, spare(x, first), x.fencerOf(104, 1));
        touches(x, 1, 5);
        DUE.is("32 the other one", x.nodeWinner(4), x.fencerOf(104, 1));
        DUE.is("18 comes anew", x.fencerOf(102, 0), x.fencerOf(104, 1));
        win(x, 102, 0);
        DUE.is("32 and is decided anew", x.nodeWinner(2), x.fencerOf(104, 1));
        DUE.is("33 no more are gone", x.gone(), 2);
    }

    private static void goneByAnotherWinner() {
        PisteLine x = drawn(4);
        int second = x.fencerOf(102, 0);
        int other = spare(x, second);
        // 4 to 4 by double touches, a fifth of them, which doesn't count, and one of the side 0.
        x.begin(102, other, x.fencerOf(102, 1));
        for (int i = 0; i < 5; i++) {
            both(x);
        }
        x.change(0, second);
        touch(x, 0);
        dueScore(x, 102, 5, 4, second);
        win(x, 103, 0);
        x.begin(101, second, x.fencerOf(101, 1));
        touch(x, 0);
        DUE.is("14 an appeal there", x.appeal(0, 0), 1);
        DUE.is("14 one of the other side", x.appeal(1, 0), 1);
        DUE.is("24 is used up", x.appeals(101, 0), 1);
        DUE.is("24 that, too", x.appeals(101, 1), 1);
        x.test(other, 0, 0);
        dueScore(x, 102, 0, 5, x.fencerOf(102, 1));
        DUE.is("33 another winner", x.gone(), 1);
        DUE.is("18 who is there at once", x.fencerOf(101, 0), x.fencerOf(102, 1));
        DUE.is("15 the piste is empty", x.piste(), NONE);
        DUE.is("22 without phrases", x.phrases(101), 0);
        DUE.is("24 with all appeals", x.appeals(101, 0), 2);
        DUE.is("24 of both sides", x.appeals(101, 1), 2);
        DUE.is("19 without a score", x.score(101, 0), 0);
        DUE.is("8 comes anew", x.begin(101, x.fencerOf(101, 0), x.fencerOf(101, 1)), 0);
    }

    private static void goneByTheBench() {
        PisteLine x = hall(PisteLine.FOIL, 4);
        x.drawPools(1);
        fencePools(x);
        x.drawTableau();
        win(x, 103, 0);
        x.begin(102, x.fencerOf(102, 0), x.fencerOf(102, 1));
        touches(x, 0, 4);
        x.allez();
        x.right(0, 0);
        x.contact(0, true, 1);
        x.contact(1, true, 1);
        x.halt();
        DUE.is("18 known", x.fencerOf(101, 0), x.fencerOf(102, 0));
        DUE.is("14 the bench takes it back", x.appeal(1, 1), 2);
        dueScore(x, 102, 4, 1, NONE);
        DUE.is("18 not known any more", x.fencerOf(101, 0), NONE);
        DUE.is("33 it had no phrases", x.gone(), 0);
        DUE.is("15 this one stays there", x.piste(), 102);
    }

    private static void goneWithoutPhrases() {
        PisteLine x = drawn(4);
        win(x, 102, 0);
        win(x, 103, 0);
        int first = x.fencerOf(101, 0);
        x.begin(101, first, x.fencerOf(101, 1));
        DUE.is("15 on the piste", x.piste(), 101);
        x.test(first, 0, 0);
        DUE.is("15 gone from it", x.piste(), NONE);
        DUE.is("33 without phrases", x.gone(), 0);
        PisteLine y = drawn(4);
        win(y, 102, 0);
        win(y, 103, 0);
        int loser = y.fencerOf(102, 1);
        y.begin(101, y.fencerOf(101, 0), y.fencerOf(101, 1));
        touch(y, 1);
        y.test(loser, 0, 0);
        DUE.is("15 nothing has changed", y.piste(), 101);
        DUE.is("22 nor gone", y.phrases(101), 1);
        y.test(y.fencerOf(101, 1), 0, 0);
        // The side 1 rests on 103, which is open now; its bout above is gone.
        DUE.is("33 one is gone", y.gone(), 1);
        DUE.is("32 not known", y.nodeWinner(3), NONE);
        DUE.is("32 still known", y.nodeWinner(2), y.fencerOf(102, 0));
    }

    private static void struckInTheFinal() {
        PisteLine x = drawn(2);
        win(x, 101, 1);
        DUE.is("32 the tableau is won", x.nodeWinner(1), 1);
        x.test(1, 0, 0);
        dueScore(x, 101, 0, 0, NONE);
        DUE.is("32 and is open again", x.nodeWinner(1), NONE);
        DUE.is("22 the phrases stay", x.phrases(101), 5);
        DUE.is("33 nothing rested on it", x.gone(), 0);
        DUE.is("15 it stays on the piste", x.piste(), 101);
        x.change(1, spare(x, 1));
        touches(x, 0, 5);
        dueScore(x, 101, 5, 0, 0);
    }

    private static void oneSideKnown() {
        PisteLine x = drawn(8);
        win(x, 106, 0);
        DUE.is("18 the one side", x.fencerOf(103, 0), x.nodeWinner(6));
        DUE.is("18 not yet the other one", x.fencerOf(103, 1), NONE);
        // Not known is not nobody: there will be a bout.
        DUE.is("32 no winner without the bout", x.nodeWinner(3), NONE);
        DUE.is("21 nor told by it", x.winner(103), NONE);
        win(x, 107, 1);
        DUE.is("32 nor with both known", x.nodeWinner(3), NONE);
        DUE.is("18 both are known", x.fencerOf(103, 1), x.nodeWinner(7));
    }
}
