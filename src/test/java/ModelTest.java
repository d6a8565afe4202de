import java.util.ArrayList;
import java.util.List;

/** Long runs of calls, drawn from fixed seeds, answered by the class and by the model alike. */
public final class ModelTest {
    private static final int RUNS = 700;
    private static final int CALLS = 512;

    private final Due due;
    private final Hall real;
    private final Hall model;
    private final StringBuilder log = new StringBuilder();
    private long seed;
    private boolean isWrong;
    private int clock;

    private ModelTest(Due due, int run) {
        this.due = due;
        seed = 7919L * run + 17;
        int discipline = below(5) == 0 ? below(7) - 3 : below(2);
        log.append("new PisteLine(").append(discipline).append(")");
        real = new RealHall(new PisteLine(discipline));
        model = new ModelHall(discipline);
    }

    public static void main(String[] args) {
        Due due = new Due("ModelTest");
        int drawn = 0;
        int ended = 0;
        int gone = 0;
        int goneTwice = 0;
        for (int run = 0; run < RUNS; run++) {
            ModelTest one = new ModelTest(due, run);
            one.run();
            drawn += one.model.size() > 0 ? 1 : 0;
            ended += one.model.size() > 0 && one.model.nodeWinner(1) >= 0 ? 1 : 0;
            gone += one.model.gone() > 0 ? 1 : 0;
            goneTwice += one.model.gone() > 1 ? 1 : 0;
            if (one.isWrong) {
                break;
            }
        }
        System.out.println("tableaus drawn " + drawn + ", ended " + ended + ", with a bout gone " + gone
            + ", with more " + goneTwice);
        due.is("the runs reach tableaus, and bouts that are gone", ended > 50 && goneTwice > 20, true);
        due.end();
    }

    private int below(int bound) {
        seed = seed * 6364136223846793005L + 1442695040888963407L;
        return (int) Math.floorMod(seed >>> 33, (long) bound);
    }

    private void run() {
        int fencers = below(3) == 0 ? 2 + below(11) : 2 + below(4);
        int spare = below(2);
        for (int f = 0; f < fencers; f++) {
            call("fencer()", Hall::fencer);
            for (int i = 0; i <= spare; i++) {
                int fencer = f;
                call("weapon(" + f + ")", h -> h.weapon(fencer));
            }
        }
        for (int w = 0; w < fencers * (spare + 1); w++) {
            test(w, 500 + below(271), below(16));
        }
        int pools = 1 + below(Math.min(4, fencers / 2));
        if (below(10) > 0) {
            call("drawPools(" + pools + ")", h -> h.drawPools(pools));
        }
        int failsOf = 8 + below(60);
        for (int i = 0; i < CALLS && !isWrong; i++) {
            step(failsOf);
            if (below(16) == 0) {
                compare();
            }
        }
        compare();
    }

    private void compare() {
        String got = Snapshot.of(real);
        String want = Snapshot.of(model);
        if (!got.equals(want)) {
            isWrong = true;
            System.out.println(log);
        }
        due.same("the state", got, want);
    }

    private void step(int failsOf) {
        if (below(14) == 0) {
            wild();
        } else if (model.isFencing()) {
            duringPhrase();
        } else if (below(failsOf) == 0 && model.poolBouts() > 0) {
            test(below(24), below(500), below(101));
        } else if (model.piste() != -1 && below(12) == 0) {
            appeal(below(2), below(3) - 1);
        } else if (model.piste() != -1 && canGoOn()) {
            call("allez()", Hall::allez);
        } else {
            nextBout();
        }
    }

    private boolean canGoOn() {
        boolean isOpen = model.winner(model.piste()) == -1;
        return isOpen && model.mark(model.weaponOf(0)) == 1 && model.mark(model.weaponOf(1)) == 1;
    }

    private void duringPhrase() {
        int kind = below(10);
        if (kind < 4) {
            int ahead = clock;
            clock += below(4) == 0 ? 290 + below(20) : below(4) == 0 ? 38 + below(5) : below(3);
            contact(below(2), below(5) > 0, below(12) == 0 ? ahead - 1 : clock);
        } else if (kind < 5) {
            clock += below(3);
            right(below(3) - 1, clock);
        } else {
            clock = 0;
            call("halt()", Hall::halt);
        }
    }

    private void nextBout() {
        List<Integer> open = new ArrayList<>();
        for (int bout = 0; bout < 100 + model.size(); bout++) {
            boolean isThere = bout < model.poolBouts() || bout > 100;
            if (isThere && model.winner(bout) == -1 && model.fencerOf(bout, 0) != -1
                && model.fencerOf(bout, 1) != -1) {
                open.add(bout);
            }
        }
        if (open.isEmpty()) {
            if (model.size() == 0) {
                call("drawTableau()", Hall::drawTableau);
            } else {
                wild();
            }
            return;
        }
        int bout = open.get(below(open.size()));
        int first = weaponFor(model.fencerOf(bout, 0));
        int second = weaponFor(model.fencerOf(bout, 1));
        call("begin(" + bout + ", " + first + ", " + second + ")", h -> h.begin(bout, first, second));
    }

    private int weaponFor(int fencer) {
        int count = 0;
        List<Integer> fit = new ArrayList<>();
        for (int w = 0; w < 24; w++) {
            try {
                if (model.owner(w) == fencer && model.mark(w) == 1) {
                    fit.add(w);
                }
                count++;
            } catch (IndexOutOfBoundsException e) {
                break;
            }
        }
        if (!fit.isEmpty()) {
            return fit.get(below(fit.size()));
        }
        call("weapon(" + fencer + ")", h -> h.weapon(fencer));
        test(count, 600, 3);
        return count;
    }

    private void wild() {
        int any = below(17) - 2;
        int other = below(17) - 2;
        int side = below(8) == 0 ? below(4) - 1 : below(2);
        int time = below(3) == 0 ? Integer.MAX_VALUE - below(50) : below(600) - 5;
        int bout = below(3) == 0 ? 99 + below(20) : below(12) - 1;
        switch (below(16)) {
            case 0: call("fencer()", Hall::fencer); break;
            case 1: call("weapon(" + any + ")", h -> h.weapon(any)); break;
            case 2: test(any, 480 + below(310), below(20)); break;
            case 3: test(below(24), below(3) * 1001 - 1, below(103) - 1); break;
            case 4: call("begin(" + bout + ", " + any + ", " + other + ")", h -> h.begin(bout, any, other)); break;
            case 5:
            case 6: change(side, weaponOnPiste(side)); break;
            case 7: change(side, any); break;
            case 8: call("allez()", Hall::allez); break;
            case 9: contact(side, below(2) == 0, time); break;
            case 10: right(below(5) - 2, time); break;
            case 11: call("halt()", Hall::halt); clock = 0; break;
            case 12:
            case 13: appeal(side, below(8) == 0 ? below(5) - 2 : below(3) - 1); break;
            case 14: call("drawPools(" + any + ")", h -> h.drawPools(any)); break;
            default: call("drawTableau()", Hall::drawTableau); break;
        }
    }

    private int weaponOnPiste(int side) {
        if (model.piste() == -1 || side < 0 || side > 1) {
            return 0;
        }
        return weaponFor(model.fencerOf(model.piste(), side));
    }

    private void test(int weapon, int weight, int travel) {
        call("test(" + weapon + ", " + weight + ", " + travel + ")", h -> h.test(weapon, weight, travel) ? 1 : 0);
    }

    private void change(int side, int weapon) {
        call("change(" + side + ", " + weapon + ")", h -> h.change(side, weapon));
    }

    private void contact(int side, boolean isOn, int time) {
        call("contact(" + side + ", " + isOn + ", " + time + ")", h -> h.contact(side, isOn, time));
    }

    private void right(int side, int time) {
        call("right(" + side + ", " + time + ")", h -> h.right(side, time));
    }

    private void appeal(int side, int right) {
        call("appeal(" + side + ", " + right + ")", h -> h.appeal(side, right));
    }

    private void call(String name, Ask ask) {
        if (isWrong) {
            return;
        }
        String got = Ask.answer(real, ask);
        String want = Ask.answer(model, ask);
        log.append('\n').append(name).append(" = ").append(got);
        if (!got.equals(want)) {
            isWrong = true;
            System.out.println(log);
        }
        due.same(name, got, want);
    }
}
