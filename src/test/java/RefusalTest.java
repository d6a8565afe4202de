import java.util.ArrayList;
import java.util.List;

/** What holds for every call that is refused: which exception is thrown, and that nothing changes. */
public final class RefusalTest extends Edges {
    private static final int[] NUMBERS = {MIN, -2, -1, 0, 1, 2, 3, 8, 12, 24, 66, 99, 100, 101, 103, 104, 116, MAX};
    private static final int[] SMALL = {-2, -1, 0, 1, 2, 5};

    private record Named(String name, Ask ask) {
    }

    public static void main(String[] args) {
        run(RefusalTest.class);
    }

    // ---- all calls in many states

    /** Many states: each kind of piste, of pools and of tableau that a clause of the document names. */
    private static List<Hall> states() {
        List<Hall> states = new ArrayList<>();
        states.add(Recorder.hall(EPEE));
        states.add(hall(EPEE, 1));
        states.add(hall(EPEE, 2));
        states.add(hall(FOIL, 12));
        states.add(withAllWeapons());
        states.add(onPiste(FOIL));
        states.add(fencing(EPEE));
        states.add(full(FOIL));
        states.add(withAFailedWeapon());
        states.add(withoutAppeals());
        states.add(poolsFenced(FOIL, 2));
        states.add(poolsFenced(EPEE, 5));
        Hall twelve = onPiste(FOIL);
        emptyPhrases(twelve, 12);
        states.add(twelve);
        states.add(drawn(2));
        states.add(drawn(5));
        states.add(onFinal(FOIL));
        Hall inAPhrase = onFinal(FOIL);
        inAPhrase.allez();
        hear(inAPhrase, "r1:3 0+7");
        states.add(inAPhrase);
        Hall won = drawn(2);
        win(won, 101, 1);
        states.add(won);
        return states;
    }

    private static Hall withAllWeapons() {
        Hall x = hall(FOIL, 3);
        for (int w = 3; w < 24; w++) {
            x.weapon(w % 3);
        }
        x.test(5, 0, 0);
        return x;
    }

    private static Hall withAFailedWeapon() {
        Hall x = onPiste(FOIL);
        bothWithRight(x, 1);
        x.test(0, 0, 0);
        return x;
    }

    private static Hall withoutAppeals() {
        Hall x = onPiste(FOIL);
        bothWithRight(x, 1);
        x.appeal(0, 1);
        x.appeal(0, 1);
        x.appeal(1, 1);
        x.appeal(1, 1);
        return x;
    }

    private static List<Named> allCalls() {
        List<Named> calls = new ArrayList<>();
        calls.add(new Named("fencer()", Hall::fencer));
        calls.add(new Named("allez()", Hall::allez));
        calls.add(new Named("halt()", Hall::halt));
        calls.add(new Named("drawTableau()", Hall::drawTableau));
        for (int number : NUMBERS) {
            addOfNumber(calls, number);
            for (int side : SMALL) {
                addOfTwo(calls, number, side);
            }
        }
        for (int first : SMALL) {
            for (int second : SMALL) {
                calls.add(new Named("appeal(" + first + ", " + second + ")", h -> h.appeal(first, second)));
                for (int bout : new int[] {-1, 0, 1, 2, 99, 100, 101, 102, 104, 116}) {
                    String name = "begin(" + bout + ", " + first + ", " + second + ")";
                    calls.add(new Named(name, h -> h.begin(bout, first, second)));
                }
            }
        }
        return calls;
    }

    private static void addOfNumber(List<Named> calls, int number) {
        calls.add(new Named("weapon(" + number + ")", h -> h.weapon(number)));
        calls.add(new Named("mark(" + number + ")", h -> h.mark(number)));
        calls.add(new Named("owner(" + number + ")", h -> h.owner(number)));
        calls.add(new Named("weaponOf(" + number + ")", h -> h.weaponOf(number)));
        calls.add(new Named("winner(" + number + ")", h -> h.winner(number)));
        calls.add(new Named("phrases(" + number + ")", h -> h.phrases(number)));
        calls.add(new Named("drawPools(" + number + ")", h -> h.drawPools(number)));
        calls.add(new Named("won(" + number + ")", h -> h.won(number)));
        calls.add(new Named("index(" + number + ")", h -> h.index(number)));
        calls.add(new Named("rankedAt(" + number + ")", h -> h.rankedAt(number)));
        calls.add(new Named("nodeWinner(" + number + ")", h -> h.nodeWinner(number)));
    }

    private static void addOfTwo(List<Named> calls, int number, int small) {
        String pair = "(" + number + ", " + small + ")";
        String turned = "(" + small + ", " + number + ")";
        calls.add(new Named("fencerOf" + pair, h -> h.fencerOf(number, small)));
        calls.add(new Named("score" + pair, h -> h.score(number, small)));
        calls.add(new Named("scoreAnew" + pair, h -> h.scoreAnew(number, small)));
        calls.add(new Named("appeals" + pair, h -> h.appeals(number, small)));
        calls.add(new Named("touches" + pair, h -> h.touches(number, small)));
        calls.add(new Named("change" + turned, h -> h.change(small, number)));
        calls.add(new Named("right" + turned, h -> h.right(small, number)));
        calls.add(new Named("contact" + turned, h -> h.contact(small, true, number)));
        for (int weight : new int[] {-1, 0, 600, 2000, 2001}) {
            String name = "test(" + number + ", " + weight + ", " + small * 20 + ")";
            calls.add(new Named(name, h -> h.test(number, weight, small * 20) ? 1 : 0));
        }
    }

    @Sentence({"A call that throws an exception changes nothing.", "IllegalStateException: as the method tells."})
    static void nothingChanges() {
        List<Named> calls = allCalls();
        for (Hall state : states()) {
            Recorder tape = Recorder.of(state);
            List<Named> refused = new ArrayList<>();
            for (Named call : calls) {
                Hall model = tape.model();
                if (Ask.answer(model, call.ask).endsWith("Exception")) {
                    refused.add(call);
                }
            }
            Hall model = tape.model();
            is("calls refused", refused.size() > 100, true);
            for (Named call : refused) {
                same(call.name, Ask.answer(tape.real(), call.ask), Ask.answer(model, call.ask));
            }
            same("the state then", Snapshot.of(tape.real()), Snapshot.of(model));
            for (Aftermath aftermath : Aftermath.values()) {
                Hall with = tape.again();
                for (Named call : refused) {
                    Ask.answer(with, call.ask);
                }
                same("what follows", aftermath.of(with), aftermath.of(tape.again()));
            }
        }
    }

    // ---- which exception

    @Sentence("If several apply, the one that the throws clause names first is thrown.")
    static void ofSeveralTheFirst() {
        Hall all = withAllWeapons();
        refused(all, "weapon() of nobody, 24 are there", INDEX, h -> h.weapon(3));
        refused(all, "weapon(-1), 24 are there", INDEX, h -> h.weapon(-1));
        Hall failed = withAFailedWeapon();
        refused(failed, "test() of no weapon, out of range", INDEX, h -> h.test(2, -1, -1) ? 1 : 0);
        refused(failed, "test() of a failed one, weight -1", ARGUMENT, h -> h.test(0, -1, 0) ? 1 : 0);
        refused(failed, "test() of a failed one, weight 2001", ARGUMENT, h -> h.test(0, 2001, 0) ? 1 : 0);
        refused(failed, "test() of a failed one, travel -1", ARGUMENT, h -> h.test(0, 600, -1) ? 1 : 0);
        refused(failed, "test() of a failed one, travel 101", ARGUMENT, h -> h.test(0, 600, 101) ? 1 : 0);
        Hall phrase = fencing(FOIL);
        refused(phrase, "test() of no weapon, in a phrase", INDEX, h -> h.test(-1, 600, 0) ? 1 : 0);
        refused(phrase, "test() out of range, in a phrase", ARGUMENT, h -> h.test(0, 600, 101) ? 1 : 0);
        refused(phrase, "begin() of no bout, in a phrase", INDEX, h -> h.begin(1, 0, 1));
        refused(phrase, "begin() with no first weapon, in a phrase", INDEX, h -> h.begin(0, 2, 1));
        refused(phrase, "begin() with no second weapon, in a phrase", INDEX, h -> h.begin(0, 0, -1));
        refused(phrase, "change() of no side, in a phrase", INDEX, h -> h.change(2, 0));
        refused(phrase, "change() to no weapon, in a phrase", INDEX, h -> h.change(0, 2));
        refused(phrase, "appeal() of no side, in a phrase", INDEX, h -> h.appeal(-1, 0));
        refused(phrase, "appeal() for no side, in a phrase", ARGUMENT, h -> h.appeal(0, 2));
        refused(phrase, "appeal() of and for no side", INDEX, h -> h.appeal(2, 2));
        refused(phrase, "contact() of no side, time -1", INDEX, h -> h.contact(2, true, -1));
        refused(phrase, "drawPools() out of range, drawn", ARGUMENT, h -> h.drawPools(0));
        Hall decided = poolsFenced(EPEE, 2);
        refused(decided, "begin() of a decided bout with no weapon", INDEX, h -> h.begin(0, 0, 2));
        refused(decided, "begin() with the wrong one and no weapon", INDEX, h -> h.begin(0, 1, 2));
        Hall none = hall(EPEE, 2);
        refused(none, "change() of no side, the piste is empty", INDEX, h -> h.change(-1, 0));
        refused(none, "change() to no weapon, the piste is empty", INDEX, h -> h.change(0, 5));
        refused(none, "appeal() of no side, the piste is empty", INDEX, h -> h.appeal(2, 0));
        refused(none, "appeal() for no side, the piste is empty", ARGUMENT, h -> h.appeal(0, -2));
        refused(none, "drawPools(5), too many", ARGUMENT, h -> h.drawPools(5));
        Hall used = withoutAppeals();
        refused(used, "appeal() for no side, none is left", ARGUMENT, h -> h.appeal(0, 2));
        refused(used, "appeal() of no side, none is left", INDEX, h -> h.appeal(2, 0));
    }

    @Sentence("If several apply, the one that the throws clause names first is thrown.")
    static void ofSeveralTheFirstOfAnEvent() {
        for (Hall noPhrase : List.of(Recorder.hall(EPEE), onPiste(EPEE))) {
            refused(noPhrase, "contact() of no side, time -1", INDEX, h -> h.contact(2, true, -1));
            refused(noPhrase, "contact() of no side", INDEX, h -> h.contact(-1, true, 0));
            refused(noPhrase, "contact() at -1", ARGUMENT, h -> h.contact(0, true, -1));
            refused(noPhrase, "right() of no side", ARGUMENT, h -> h.right(2, 0));
            refused(noPhrase, "right() at -1", ARGUMENT, h -> h.right(0, -1));
        }
        Hall full = full(FOIL);
        refused(full, "a ninth contact() of no side, too early", INDEX, h -> h.contact(2, true, 16));
        refused(full, "a ninth contact() of no side", INDEX, h -> h.contact(-1, true, 17));
        refused(full, "a ninth contact(), too early", ARGUMENT, h -> h.contact(0, true, 16));
        refused(full, "a ninth contact() at -1", ARGUMENT, h -> h.contact(0, true, -1));
        refused(full, "a ninth right() of no side", ARGUMENT, h -> h.right(2, 17));
        refused(full, "a ninth right(), too early", ARGUMENT, h -> h.right(0, 16));
        // When no phrase is on, no event is ahead.
        Hall ended = onPiste(EPEE);
        phrase(ended, "0-9");
        refused(ended, "contact() at 8 behind a phrase", STATE, h -> h.contact(0, true, 8));
        refused(ended, "right() at 8 behind a phrase", STATE, h -> h.right(0, 8));
    }

    @Sentence("IndexOutOfBoundsException: there is no such fencer, weapon, bout, side or place.")
    static void noSuchOne() {
        Hall x = drawn(3);
        refused(x, "fencer 3", INDEX, h -> h.won(3));
        refused(x, "fencer -1", INDEX, h -> h.weapon(-1));
        refused(x, "weapon 3", INDEX, h -> h.mark(3));
        refused(x, "weapon -1", INDEX, h -> h.owner(-1));
        refused(x, "bout 3", INDEX, h -> h.winner(3));
        refused(x, "bout 104", INDEX, h -> h.phrases(104));
        refused(x, "side 2", INDEX, h -> h.weaponOf(2));
        refused(x, "side -1", INDEX, h -> h.score(0, -1));
        refused(x, "place 3", INDEX, h -> h.rankedAt(3));
        refused(x, "place -1", INDEX, h -> h.rankedAt(-1));
    }

    @Sentence("IllegalArgumentException: another argument is out of its range.")
    static void anotherArgument() {
        Hall x = fencing(FOIL);
        x.contact(0, true, 5);
        refused(x, "weight 2001", ARGUMENT, h -> h.test(0, 2001, 0) ? 1 : 0);
        refused(x, "travel 101", ARGUMENT, h -> h.test(0, 0, 101) ? 1 : 0);
        refused(x, "time 4 of a contact", ARGUMENT, h -> h.contact(0, true, 4));
        refused(x, "time 4 of the right", ARGUMENT, h -> h.right(0, 4));
        refused(x, "the right of a side 2", ARGUMENT, h -> h.right(2, 5));
        refused(x, "pools 5", ARGUMENT, h -> h.drawPools(5));
        x.halt();
        refused(x, "an appeal for a side 2", ARGUMENT, h -> h.appeal(0, 2));
    }
}
