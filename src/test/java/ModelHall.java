import java.util.ArrayList;
import java.util.Comparator;
import java.util.HashMap;
import java.util.List;
import java.util.Map;

/** The document told once more, as slowly and plainly as can be: nothing derived is ever kept. */
final class ModelHall implements Hall {
    private static final class Heard {
        final boolean isContact;
        final boolean isOn;
        final int side;
        final int time;

        Heard(boolean isContact, boolean isOn, int side, int time) {
            this.isContact = isContact;
            this.isOn = isOn;
            this.side = side;
            this.time = time;
        }
    }

    private static final class Fenced {
        final int[] weapons;
        final List<Heard> events = new ArrayList<>();
        final List<Integer> bench = new ArrayList<>();

        Fenced(int first, int second) {
            weapons = new int[] {first, second};
        }
    }

    private static final class Sheet {
        final List<Fenced> phrases = new ArrayList<>();
        final int[] appeals = {2, 2};
    }

    private final boolean isEpee;
    private int fencerCount;
    private final List<Integer> owners = new ArrayList<>();
    private final List<Integer> marks = new ArrayList<>();
    private final List<Boolean> failedEarly = new ArrayList<>();
    private final List<int[]> pairs = new ArrayList<>();
    private final Map<Integer, Sheet> sheets = new HashMap<>();
    private int size;
    private final Map<Integer, Integer> leaves = new HashMap<>();
    private int goneCount;
    private int onPiste = -1;
    private final int[] armed = {-1, -1};
    private Fenced now;
    private boolean canAppeal;

    ModelHall(int discipline) {
        isEpee = discipline == 0;
    }

    // ---- what is told of the state

    private Sheet sheet(int bout) {
        return sheets.computeIfAbsent(bout, number -> new Sheet());
    }

    private boolean isPoolBout(int bout) {
        return bout >= 0 && bout < pairs.size();
    }

    private boolean isBout(int bout) {
        return isPoolBout(bout) || bout > 100 && bout < 100 + size;
    }

    private static boolean isSide(int side) {
        return side == 0 || side == 1;
    }

    private boolean isWeapon(int weapon) {
        return weapon >= 0 && weapon < owners.size();
    }

    private int judged(Fenced phrase) {
        int[] light = {-1, -1};
        for (int i = phrase.events.size() - 1; i >= 0; i--) {
            Heard event = phrase.events.get(i);
            if (event.isContact && (event.isOn || !isEpee)) {
                light[event.side] = i;
            }
        }
        if (light[0] >= 0 && light[1] >= 0) {
            int later = light[0] > light[1] ? 0 : 1;
            long gap = (long) phrase.events.get(light[later]).time - phrase.events.get(light[1 - later]).time;
            if (gap > (isEpee ? 40 : 300)) {
                light[later] = -1;
            }
        }
        boolean[] touch = new boolean[2];
        for (int side = 0; side < 2; side++) {
            touch[side] = light[side] >= 0 && phrase.events.get(light[side]).isOn;
        }
        if (!isEpee && light[0] >= 0 && light[1] >= 0) {
            int holder = -1;
            for (Heard event : phrase.events.subList(0, Math.min(light[0], light[1]))) {
                if (!event.isContact) {
                    holder = event.side;
                }
            }
            if (!phrase.bench.isEmpty()) {
                holder = phrase.bench.get(phrase.bench.size() - 1);
            }
            touch[0] &= holder == 0;
            touch[1] &= holder == 1;
        }
        return (touch[0] ? 1 : 0) + (touch[1] ? 2 : 0);
    }

    private int left(int bout, Fenced phrase) {
        int touches = judged(phrase);
        for (int side = 0; side < 2; side++) {
            int weapon = phrase.weapons[side];
            boolean isFalse = isPoolBout(bout) ? failedEarly.get(weapon) : marks.get(weapon) == 2;
            if (isFalse && (touches >> side & 1) == 1) {
                touches -= 1 << side;
            }
        }
        return touches;
    }

    /** The scores of both sides, and the side that has won, or -1. */
    private int[] result(int bout) {
        int goal = isPoolBout(bout) ? 3 : 5;
        int[] score = {0, 0, -1};
        for (Fenced phrase : sheet(bout).phrases) {
            if (score[0] == goal || score[1] == goal) {
                break;
            }
            int touches = left(bout, phrase);
            if (touches == 3 && score[0] == goal - 1 && score[1] == goal - 1) {
                continue;
            }
            score[0] += touches & 1;
            score[1] += touches >> 1;
        }
        if (score[0] == goal) {
            score[2] = 0;
        } else if (score[1] == goal) {
            score[2] = 1;
        } else if (sheet(bout).phrases.size() == 12) {
            score[2] = score[1] > score[0] ? 1 : 0;
        }
        return score;
    }

    private int atNode(int node) {
        if (node >= size) {
            return leaves.getOrDefault(node, -1);
        }
        for (int side = 0; side < 2; side++) {
            int child = 2 * node + side;
            if (child >= size && !leaves.containsKey(child)) {
                return atNode(4 * node + 1 - child);
            }
        }
        int side = result(100 + node)[2];
        return side < 0 ? -1 : atNode(2 * node + side);
    }

    private int[] allNodes() {
        int[] winners = new int[2 * size];
        for (int node = 1; node < 2 * size; node++) {
            winners[node] = atNode(node);
        }
        return winners;
    }

    /** Lets go what rests on winners that are no longer those of before. */
    private void letGo(int node, int[] before) {
        if (node >= size) {
            return;
        }
        for (int child = 2 * node; child <= 2 * node + 1; child++) {
            letGo(child, before);
            if (before[child] != -1 && before[child] != atNode(child)) {
                Sheet old = sheets.remove(100 + node);
                goneCount += old != null && !old.phrases.isEmpty() ? 1 : 0;
                if (onPiste == 100 + node) {
                    clearPiste();
                }
            }
        }
    }

    private void clearPiste() {
        onPiste = -1;
        armed[0] = -1;
        armed[1] = -1;
        canAppeal = false;
    }

    private void letGo(int[] before) {
        if (size > 0) {
            letGo(1, before);
        }
    }

    private int[] counted(int fencer) {
        int[] sum = new int[4];
        for (int bout = 0; bout < pairs.size(); bout++) {
            int[] result = result(bout);
            for (int side = 0; side < 2; side++) {
                if (pairs.get(bout)[side] == fencer && result[2] >= 0) {
                    sum[0]++;
                    sum[1] += result[2] == side ? 1 : 0;
                    sum[2] += result[side];
                    sum[3] += result[1 - side];
                }
            }
        }
        return sum;
    }

    private List<Integer> ranks() {
        List<Integer> order = new ArrayList<>();
        Map<Integer, int[]> sums = new HashMap<>();
        for (int f = 0; f < fencerCount; f++) {
            order.add(f);
            sums.put(f, counted(f));
        }
        // 27720 is divided by each number up to 12, so that the quotients are whole numbers.
        order.sort(Comparator
            .comparingInt((Integer f) -> sums.get(f)[0] == 0 ? 0 : -27720 / sums.get(f)[0] * sums.get(f)[1])
            .thenComparingInt(f -> sums.get(f)[3] - sums.get(f)[2])
            .thenComparingInt(f -> -sums.get(f)[2])
            .thenComparingInt(f -> f));
        return order;
    }

    private static void index(boolean isThere) {
        if (!isThere) {
            throw new IndexOutOfBoundsException();
        }
    }

    private static void argument(boolean isInRange) {
        if (!isInRange) {
            throw new IllegalArgumentException();
        }
    }

    private static void state(boolean isFit) {
        if (!isFit) {
            throw new IllegalStateException();
        }
    }

    // ---- the calls

    public int fencer() {
        state(fencerCount < 12 && pairs.isEmpty());
        return fencerCount++;
    }

    public int weapon(int fencer) {
        index(fencer >= 0 && fencer < fencerCount);
        state(owners.size() < 24);
        owners.add(fencer);
        marks.add(0);
        failedEarly.add(false);
        return owners.size() - 1;
    }

    public boolean test(int weapon, int weight, int travel) {
        index(isWeapon(weapon));
        argument(weight >= 0 && weight <= 2000 && travel >= 0 && travel <= 100);
        state(marks.get(weapon) != 2 && now == null);
        int[] before = allNodes();
        boolean isGood = weight >= 500 && weight <= 770 && travel <= 15;
        marks.set(weapon, isGood ? 1 : 2);
        failedEarly.set(weapon, !isGood && size == 0);
        letGo(before);
        return isGood;
    }

    public int fencers() {
        return fencerCount;
    }

    public int mark(int weapon) {
        index(isWeapon(weapon));
        return marks.get(weapon);
    }

    public int owner(int weapon) {
        index(isWeapon(weapon));
        return owners.get(weapon);
    }

    public int begin(int bout, int first, int second) {
        index(isBout(bout) && isWeapon(first) && isWeapon(second));
        state(now == null);
        state(fencerOf(bout, 0) != -1 && fencerOf(bout, 1) != -1 && result(bout)[2] == -1);
        state(marks.get(first) == 1 && marks.get(second) == 1);
        state(owners.get(first) == fencerOf(bout, 0) && owners.get(second) == fencerOf(bout, 1));
        clearPiste();
        onPiste = bout;
        armed[0] = first;
        armed[1] = second;
        return sheet(bout).phrases.size();
    }

    public int change(int side, int weapon) {
        index(isSide(side) && isWeapon(weapon));
        state(onPiste != -1 && now == null && marks.get(weapon) == 1);
        state(owners.get(weapon) == fencerOf(onPiste, side));
        int before = armed[side];
        armed[side] = weapon;
        return before;
    }

    public int allez() {
        state(onPiste != -1 && now == null && result(onPiste)[2] == -1);
        state(marks.get(armed[0]) == 1 && marks.get(armed[1]) == 1);
        now = new Fenced(armed[0], armed[1]);
        return sheet(onPiste).phrases.size();
    }

    private boolean isInTime(int time) {
        return time >= 0
            && (now == null || now.events.isEmpty() || time >= now.events.get(now.events.size() - 1).time);
    }

    private int hear(Heard event) {
        state(now != null && now.events.size() < 8);
        now.events.add(event);
        return now.events.size();
    }

    public int contact(int side, boolean isOn, int time) {
        index(isSide(side));
        argument(isInTime(time));
        return hear(new Heard(true, isOn, side, time));
    }

    public int right(int side, int time) {
        argument((isSide(side) || side == -1) && isInTime(time));
        return hear(new Heard(false, false, side, time));
    }

    public int halt() {
        state(now != null);
        int[] before = allNodes();
        Fenced phrase = now;
        sheet(onPiste).phrases.add(phrase);
        now = null;
        canAppeal = true;
        int bout = onPiste;
        letGo(before);
        return left(bout, phrase);
    }

    public int appeal(int side, int right) {
        index(isSide(side));
        argument(isSide(right) || right == -1);
        state(onPiste != -1 && now == null && canAppeal && sheet(onPiste).appeals[side] > 0);
        int[] before = allNodes();
        List<Fenced> all = sheet(onPiste).phrases;
        Fenced phrase = all.get(all.size() - 1);
        int then = left(onPiste, phrase);
        phrase.bench.add(right);
        int touches = left(onPiste, phrase);
        if (then == touches) {
            sheet(onPiste).appeals[side]--;
        }
        letGo(before);
        return touches;
    }

    public int piste() {
        return onPiste;
    }

    public boolean isFencing() {
        return now != null;
    }

    public int weaponOf(int side) {
        index(isSide(side));
        return armed[side];
    }

    public int fencerOf(int bout, int side) {
        index(isBout(bout) && isSide(side));
        return isPoolBout(bout) ? pairs.get(bout)[side] : atNode(2 * (bout - 100) + side);
    }

    public int score(int bout, int side) {
        index(isBout(bout) && isSide(side));
        return result(bout)[side];
    }

    public int scoreAnew(int bout, int side) {
        return score(bout, side);
    }

    public int winner(int bout) {
        index(isBout(bout));
        if (!isPoolBout(bout)) {
            return atNode(bout - 100);
        }
        int side = result(bout)[2];
        return side < 0 ? -1 : pairs.get(bout)[side];
    }

    public int phrases(int bout) {
        index(isBout(bout));
        return sheet(bout).phrases.size();
    }

    public int touches(int bout, int phrase) {
        index(isBout(bout) && phrase >= 0 && phrase < sheet(bout).phrases.size());
        return left(bout, sheet(bout).phrases.get(phrase));
    }

    public int appeals(int bout, int side) {
        index(isBout(bout) && isSide(side));
        return sheet(bout).appeals[side];
    }

    public int drawPools(int pools) {
        argument(pools >= 1 && pools <= 4);
        state(pairs.isEmpty() && fencerCount / pools >= 2);
        for (int pool = 0; pool < pools; pool++) {
            for (int low = 0; low < fencerCount; low++) {
                for (int high = low + 1; high < fencerCount; high++) {
                    if (low % pools == pool && high % pools == pool) {
                        pairs.add(new int[] {low, high});
                    }
                }
            }
        }
        return pairs.size();
    }

    public int poolBouts() {
        return pairs.size();
    }

    public int won(int fencer) {
        index(fencer >= 0 && fencer < fencerCount);
        return counted(fencer)[1];
    }

    public int index(int fencer) {
        index(fencer >= 0 && fencer < fencerCount);
        return counted(fencer)[2] - counted(fencer)[3];
    }

    public int rankedAt(int place) {
        index(place >= 0 && place < fencerCount);
        return ranks().get(place);
    }

    private static List<Integer> seedRow(int size) {
        if (size == 2) {
            return List.of(1, 2);
        }
        List<Integer> row = new ArrayList<>();
        for (int seed : seedRow(size / 2)) {
            row.add(seed);
            row.add(size + 1 - seed);
        }
        return row;
    }

    public int drawTableau() {
        state(!pairs.isEmpty() && size == 0 && now == null);
        for (int bout = 0; bout < pairs.size(); bout++) {
            state(result(bout)[2] != -1);
        }
        clearPiste();
        List<Integer> ranks = ranks();
        size = fencerCount <= 2 ? 2 : fencerCount <= 4 ? 4 : fencerCount <= 8 ? 8 : 16;
        List<Integer> row = seedRow(size);
        for (int i = 0; i < size; i++) {
            if (row.get(i) <= fencerCount) {
                leaves.put(size + i, ranks.get(row.get(i) - 1));
            }
        }
        return size;
    }

    public int size() {
        return size;
    }

    public int nodeWinner(int node) {
        index(node >= 1 && node < 2 * size);
        return atNode(node);
    }

    public int gone() {
        return goneCount;
    }
}
