import java.lang.reflect.InvocationTargetException;
import java.lang.reflect.Method;
import java.util.Arrays;
import java.util.Comparator;

/** What the tests of the document's sentences have in common: halls in known states, and answers due. */
abstract class Edges {
    static final Class<IndexOutOfBoundsException> INDEX = IndexOutOfBoundsException.class;
    static final Class<IllegalArgumentException> ARGUMENT = IllegalArgumentException.class;
    static final Class<IllegalStateException> STATE = IllegalStateException.class;
    static final int NONE = PisteLine.NONE;
    static final int EPEE = PisteLine.EPEE;
    static final int FOIL = PisteLine.FOIL;
    static final int MAX = Integer.MAX_VALUE;
    static final int MIN = Integer.MIN_VALUE;

    private static Due due = new Due("");

    /** Runs every test of the class: its methods that hold a sentence. */
    static void run(Class<? extends Edges> tests) {
        due = new Due(tests.getSimpleName());
        Method[] methods = tests.getDeclaredMethods();
        Arrays.sort(methods, Comparator.comparing(Method::getName));
        for (Method method : methods) {
            if (method.isAnnotationPresent(Sentence.class)) {
                due.part(method.getName());
                run(method);
            }
        }
        due.end();
    }

    private static void run(Method method) {
        try {
            method.invoke(null);
        } catch (InvocationTargetException e) {
            due.fault("threw " + e.getCause());
        } catch (IllegalAccessException e) {
            due.fault("can't be run: " + e);
        }
    }

    static void is(String what, long got, long want) {
        due.is(what, got, want);
    }

    static void is(String what, boolean got, boolean want) {
        due.is(what, got, want);
    }

    static void same(String what, String got, String want) {
        due.same(what, got, want);
    }

    static void refused(Hall x, String what, Class<? extends RuntimeException> thrown, Ask call) {
        due.refused(x, what, thrown, call);
    }

    // ---- halls

    /** A hall in which the weapon w is of the fencer w, and MARKED. */
    static Hall hall(int discipline, int fencers) {
        Hall x = Recorder.hall(discipline);
        for (int f = 0; f < fencers; f++) {
            x.fencer();
            x.weapon(f);
            x.test(f, 600, 10);
        }
        return x;
    }

    /** Two fencers, whose bout 0 of the pool is on the piste. */
    static Hall onPiste(int discipline) {
        Hall x = hall(discipline, 2);
        x.drawPools(1);
        x.begin(0, 0, 1);
        return x;
    }

    static Hall fencing(int discipline) {
        Hall x = onPiste(discipline);
        x.allez();
        return x;
    }

    /** A phrase of 8 events is on. */
    static Hall full(int discipline) {
        Hall x = fencing(discipline);
        for (int i = 0; i < 8; i++) {
            x.contact(0, true, 10 + i);
        }
        return x;
    }

    /** All bouts of the pools are decided; the fencer f is in the place f of the ranks. */
    static Hall poolsFenced(int discipline, int fencers) {
        Hall x = hall(discipline, fencers);
        x.drawPools(Math.min(4, fencers / 2));
        for (int bout = 0; bout < Recorder.of(x).real().poolBouts(); bout++) {
            win(x, bout, 0);
        }
        return x;
    }

    /** A tableau in which the fencer f is the seed f + 1. */
    static Hall drawn(int discipline, int fencers) {
        Hall x = poolsFenced(discipline, fencers);
        x.drawTableau();
        return x;
    }

    static Hall drawn(int fencers) {
        return drawn(EPEE, fencers);
    }

    /** The bout 101 of two fencers is on the piste, the weapon f of the fencer f. */
    static Hall onFinal(int discipline) {
        Hall x = drawn(discipline, 2);
        x.begin(101, 0, 1);
        return x;
    }

    // ---- what is fenced there

    /** Another weapon of a fencer, which is MARKED. */
    static int spare(Hall x, int fencer) {
        int weapon = x.weapon(fencer);
        x.test(weapon, 600, 0);
        return weapon;
    }

    static int touch(Hall x, int side) {
        x.allez();
        x.contact(side, true, 0);
        return x.halt();
    }

    static void touches(Hall x, int side, int count) {
        for (int i = 0; i < count; i++) {
            touch(x, side);
        }
    }

    static int both(Hall x) {
        x.allez();
        x.contact(0, true, 0);
        x.contact(1, true, 0);
        return x.halt();
    }

    /** A phrase in which both sides have a light, and the right is with a side from the beginning. */
    static int bothWithRight(Hall x, int right) {
        x.allez();
        x.right(right, 0);
        x.contact(0, true, 0);
        x.contact(1, true, 0);
        return x.halt();
    }

    static void emptyPhrases(Hall x, int count) {
        for (int i = 0; i < count; i++) {
            x.allez();
            x.halt();
        }
    }

    /** Puts a bout on the piste, with the weapons that have the numbers of the fencers. */
    static int begin(Hall x, int bout) {
        Hall asked = Recorder.of(x).real();
        return x.begin(bout, asked.fencerOf(bout, 0), asked.fencerOf(bout, 1));
    }

    /** Lets a side win a bout to nothing. */
    static void win(Hall x, int bout, int side) {
        begin(x, bout);
        touches(x, side, bout < 100 ? 3 : 5);
    }

    /**
     * Hears events: 0+5 is a contact of the side 0 on the target at the time 5, 0-5 one off it, r1:5 is
     * the right of the side 1 from 5 on, and rN:5 that of none.
     */
    static void hear(Hall x, String events) {
        for (String event : events.split(" ")) {
            if (event.isEmpty()) {
                continue;
            }
            if (event.charAt(0) == 'r') {
                int side = event.charAt(1) == 'N' ? NONE : event.charAt(1) - '0';
                x.right(side, Integer.parseInt(event.substring(3)));
            } else {
                int time = Integer.parseInt(event.substring(2));
                x.contact(event.charAt(0) - '0', event.charAt(1) == '+', time);
            }
        }
    }

    static int phrase(Hall x, String events) {
        x.allez();
        hear(x, events);
        return x.halt();
    }

    /** The touches of a first phrase of these events are due, in all ways of asking for them. */
    static void dueTouches(int discipline, String events, int want) {
        Hall x = onPiste(discipline);
        is("halt() behind " + events, phrase(x, events), want);
        is("touches() of " + events, x.touches(0, 0), want);
        dueScore(x, 0, want & 1, want >> 1, NONE);
    }

    /** The score and the winner of a bout are due, as kept and from the raw contacts. */
    static void dueScore(Hall x, int bout, int first, int second, int winner) {
        is("score(" + bout + ", 0)", x.score(bout, 0), first);
        is("score(" + bout + ", 1)", x.score(bout, 1), second);
        is("scoreAnew(" + bout + ", 0)", x.scoreAnew(bout, 0), first);
        is("scoreAnew(" + bout + ", 1)", x.scoreAnew(bout, 1), second);
        is("winner(" + bout + ")", x.winner(bout), winner);
    }

    static void dueRanks(Hall x, int... fencers) {
        for (int place = 0; place < fencers.length; place++) {
            is("rankedAt(" + place + ")", x.rankedAt(place), fencers[place]);
        }
    }

    static void dueEmptyPiste(Hall x) {
        is("piste()", x.piste(), NONE);
        is("weaponOf(0)", x.weaponOf(0), NONE);
        is("weaponOf(1)", x.weaponOf(1), NONE);
        is("isFencing()", x.isFencing(), false);
    }

    /** A bout that has not begun: no phrases, no score, all appeals. */
    static void dueUnfenced(Hall x, int bout) {
        is("phrases(" + bout + ")", x.phrases(bout), 0);
        is("score(" + bout + ", 0)", x.score(bout, 0), 0);
        is("score(" + bout + ", 1)", x.score(bout, 1), 0);
        is("scoreAnew(" + bout + ", 0)", x.scoreAnew(bout, 0), 0);
        is("scoreAnew(" + bout + ", 1)", x.scoreAnew(bout, 1), 0);
        is("appeals(" + bout + ", 0)", x.appeals(bout, 0), 2);
        is("appeals(" + bout + ", 1)", x.appeals(bout, 1), 2);
    }
}
