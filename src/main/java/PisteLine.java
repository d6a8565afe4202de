/**
 * A fencing hall: weapons that are tested, a box that judges touches, a bench that takes touches
 * back, pools, their ranks, and a tableau that is drawn from these.
 */
public final class PisteLine {
    public static final int NONE = -1;
    public static final int EPEE = 0, FOIL = 1;
    public static final int UNTESTED = 0, MARKED = 1, FAILED = 2;

    private static final int MOST_FENCERS = 12;
    private static final int MOST_WEAPONS = 24;
    private static final int MOST_POOLS = 4;
    private static final int MOST_POOL_BOUTS = MOST_FENCERS * (MOST_FENCERS - 1) / 2;
    private static final int MOST_SIZE = 16;
    private static final int MOST_PHRASES = 12;
    private static final int MOST_EVENTS = 8;
    private static final int APPEALS_AT_FIRST = 2;
    private static final int POOL_GOAL = 3, TABLEAU_GOAL = 5;
    private static final int EPEE_LOCK_OUT = 40, FOIL_LOCK_OUT = 300;
    private static final int LEAST_WEIGHT = 500, MOST_WEIGHT = 770, MOST_TRAVEL = 15;
    private static final int WEIGHT_RANGE = 2000, TRAVEL_RANGE = 100;
    private static final int NODE_BOUTS_FROM = 100;
    private static final int TOUCH_OF_FIRST = 1, TOUCH_OF_SECOND = 2;
    private static final int ON_TARGET = 0, OFF_TARGET = 1, RIGHT_TOLD = 2;

    private final boolean isFoil;
    private final Fencer[] fencerRow = new Fencer[MOST_FENCERS];
    private int fencerCount;
    private final Weapon[] weaponRow = new Weapon[MOST_WEAPONS];
    private int weaponCount;
    private final Bout[] poolRow = new Bout[MOST_POOL_BOUTS];
    private int poolBoutCount;
    private final Piste ground = new Piste();
    private final Tableau tableau = new Tableau();
    private final Tally tallyAnew = new Tally();

    public PisteLine(int discipline) {
        isFoil = discipline != EPEE;
    }

    // ---- fencers and weapons

    public int fencer() throws IllegalStateException {
        if (fencerCount >= MOST_FENCERS || arePoolsDrawn()) {
            throw new IllegalStateException("the hall is full, or the pools are drawn");
        }
        int number = fencerCount;
        fencerRow[number] = new Fencer(number);
        fencerCount++;
        return number;
    }

    public int weapon(int fencer) throws IndexOutOfBoundsException, IllegalStateException {
        if (fencerAt(fencer) == null) {
            throw new IndexOutOfBoundsException("no such fencer");
        }
        if (weaponCount >= MOST_WEAPONS) {
            throw new IllegalStateException("there are as many weapons as there may be");
        }
        int number = weaponCount;
        weaponRow[number] = new Weapon(number, fencer);
        weaponCount++;
        return number;
    }

    public boolean test(int weapon, int weight, int travel)
            throws IndexOutOfBoundsException, IllegalArgumentException, IllegalStateException {
        Weapon tested = weaponAt(weapon);
        if (tested == null) {
            throw new IndexOutOfBoundsException("no such weapon");
        }
        if (weight < 0 || weight > WEIGHT_RANGE || travel < 0 || travel > TRAVEL_RANGE) {
            throw new IllegalArgumentException("weight or travel is out of range");
        }
        if (tested.state == FAILED || ground.running != null) {
            throw new IllegalStateException("the weapon has failed, or a phrase is on");
        }
        boolean isGood = weight >= LEAST_WEIGHT && weight <= MOST_WEIGHT && travel <= MOST_TRAVEL;
        if (isGood) {
            tested.state = MARKED;
        } else {
            fail(tested);
        }
        return isGood;
    }

    public int fencers() {
        return fencerCount;
    }

    public int mark(int weapon) throws IndexOutOfBoundsException {
        Weapon asked = weaponAt(weapon);
        if (asked == null) {
            throw new IndexOutOfBoundsException("no such weapon");
        }
        return asked.state;
    }

    public int owner(int weapon) throws IndexOutOfBoundsException {
        Weapon asked = weaponAt(weapon);
        if (asked == null) {
            throw new IndexOutOfBoundsException("no such weapon");
        }
        return asked.holder;
    }

    // ---- the piste

    public int begin(int bout, int first, int second)
            throws IndexOutOfBoundsException, IllegalStateException {
        Bout coming = boutAt(bout);
        Weapon ofFirst = weaponAt(first);
        Weapon ofSecond = weaponAt(second);
        if (coming == null || ofFirst == null || ofSecond == null) {
            throw new IndexOutOfBoundsException("no such bout or weapon");
        }
        if (ground.running != null || !coming.canBeFenced()) {
            throw new IllegalStateException("a phrase is on, or the bout can't be fenced");
        }
        if (!ofFirst.isMarkedFor(coming.first) || !ofSecond.isMarkedFor(coming.second)) {
            throw new IllegalStateException("a weapon is not marked, or of another fencer");
        }
        ground.take(bout, coming, ofFirst, ofSecond);
        return coming.ended;
    }

    public int change(int side, int weapon)
            throws IndexOutOfBoundsException, IllegalStateException {
        Weapon taken = weaponAt(weapon);
        if (!isSide(side) || taken == null) {
            throw new IndexOutOfBoundsException("no such side or weapon");
        }
        Bout bout = ground.bout;
        if (bout == null || ground.running != null) {
            throw new IllegalStateException("the piste is empty, or a phrase is on");
        }
        if (!taken.isMarkedFor(bout.fencerAt(side))) {
            throw new IllegalStateException("the weapon is not marked, or of another fencer");
        }
        int before = ground.weaponNumber(side);
        ground.arm(side, taken);
        return before;
    }

    public int allez() throws IllegalStateException {
        Bout bout = ground.bout;
        Weapon ofFirst = ground.first;
        Weapon ofSecond = ground.second;
        if (bout == null || ofFirst == null || ofSecond == null || ground.running != null) {
            throw new IllegalStateException("the piste is empty, or a phrase is on");
        }
        if (!bout.canBeFenced() || ofFirst.state != MARKED || ofSecond.state != MARKED) {
            throw new IllegalStateException("the bout is decided, or a weapon is not marked");
        }
        ground.running = new Phrase(isFoil, ofFirst, ofSecond);
        return bout.ended;
    }

    public int contact(int side, boolean isOn, int time)
            throws IndexOutOfBoundsException, IllegalArgumentException, IllegalStateException {
        if (!isSide(side)) {
            throw new IndexOutOfBoundsException("no such side");
        }
        if (isTooEarly(time)) {
            throw new IllegalArgumentException("the time is below 0, or of the event ahead");
        }
        Phrase phrase = ground.running;
        if (phrase == null || phrase.isFull()) {
            throw new IllegalStateException("no phrase is on, or it is full");
        }
        phrase.hear(isOn ? ON_TARGET : OFF_TARGET, side, time);
        return phrase.events;
    }

    public int right(int side, int time) throws IllegalArgumentException, IllegalStateException {
        if (!isSideOrNone(side) || isTooEarly(time)) {
            throw new IllegalArgumentException("the side or the time is out of range");
        }
        Phrase phrase = ground.running;
        if (phrase == null || phrase.isFull()) {
            throw new IllegalStateException("no phrase is on, or it is full");
        }
        phrase.hear(RIGHT_TOLD, side, time);
        return phrase.events;
    }

    public int halt() throws IllegalStateException {
        Bout bout = ground.bout;
        Phrase phrase = ground.running;
        if (bout == null || phrase == null) {
            throw new IllegalStateException("no phrase is on");
        }
        phrase.given = phrase.judge();
        bout.keep(phrase);
        ground.running = null;
        ground.hasEnded = true;
        tableau.settle(ground);
        return bout.touchesLeft(phrase);
    }

    public int appeal(int side, int right)
            throws IndexOutOfBoundsException, IllegalArgumentException, IllegalStateException {
        if (!isSide(side)) {
            throw new IndexOutOfBoundsException("no such side");
        }
        if (!isSideOrNone(right)) {
            throw new IllegalArgumentException("the right is out of range");
        }
        Bout bout = ground.bout;
        if (bout == null || ground.running != null || !ground.hasEnded) {
            throw new IllegalStateException("there is no phrase to appeal as to");
        }
        Phrase phrase = bout.phraseAt(bout.ended - 1);
        if (phrase == null || bout.appealsLeft(side) == 0) {
            throw new IllegalStateException("the side has no appeal left");
        }
        int before = bout.touchesLeft(phrase);
        phrase.tellRight(right);
        int after = bout.touchesLeft(phrase);
        if (after == before) {
            bout.useAppeal(side);
        }
        bout.recount();
        tableau.settle(ground);
        return after;
    }

    public int piste() {
        return ground.number;
    }

    public boolean isFencing() {
        return ground.running != null;
    }

    public int weaponOf(int side) throws IndexOutOfBoundsException {
        if (!isSide(side)) {
            throw new IndexOutOfBoundsException("no such side");
        }
        return ground.weaponNumber(side);
    }

    // ---- bouts

    public int fencerOf(int bout, int side) throws IndexOutOfBoundsException {
        Bout asked = boutAt(bout);
        if (asked == null || !isSide(side)) {
            throw new IndexOutOfBoundsException("no such bout or side");
        }
        return asked.fencerAt(side);
    }

    public int score(int bout, int side) throws IndexOutOfBoundsException {
        Bout asked = boutAt(bout);
        if (asked == null || !isSide(side)) {
            throw new IndexOutOfBoundsException("no such bout or side");
        }
        return asked.kept.of(side);
    }

    public int scoreAnew(int bout, int side) throws IndexOutOfBoundsException {
        Bout asked = boutAt(bout);
        if (asked == null || !isSide(side)) {
            throw new IndexOutOfBoundsException("no such bout or side");
        }
        asked.countAnew(tallyAnew);
        return tallyAnew.of(side);
    }

    public int winner(int bout) throws IndexOutOfBoundsException {
        Bout asked = boutAt(bout);
        if (asked == null) {
            throw new IndexOutOfBoundsException("no such bout");
        }
        if (asked.isOfPool) {
            return asked.winningFencer();
        }
        return tableau.winnerAt(bout - NODE_BOUTS_FROM);
    }

    public int phrases(int bout) throws IndexOutOfBoundsException {
        Bout asked = boutAt(bout);
        if (asked == null) {
            throw new IndexOutOfBoundsException("no such bout");
        }
        return asked.ended;
    }

    public int touches(int bout, int phrase) throws IndexOutOfBoundsException {
        Bout asked = boutAt(bout);
        if (asked == null) {
            throw new IndexOutOfBoundsException("no such bout");
        }
        Phrase past = asked.phraseAt(phrase);
        if (past == null) {
            throw new IndexOutOfBoundsException("no such phrase has ended");
        }
        return asked.touchesLeft(past);
    }

    public int appeals(int bout, int side) throws IndexOutOfBoundsException {
        Bout asked = boutAt(bout);
        if (asked == null || !isSide(side)) {
            throw new IndexOutOfBoundsException("no such bout or side");
        }
        return asked.appealsLeft(side);
    }

    // ---- pools

    public int drawPools(int pools) throws IllegalArgumentException, IllegalStateException {
        if (pools < 1 || pools > MOST_POOLS) {
            throw new IllegalArgumentException("the number of pools is out of range");
        }
        if (arePoolsDrawn() || fencerCount < 2 * pools) {
            throw new IllegalStateException("the pools are drawn, or one would be too small");
        }
        for (int pool = 0; pool < pools; pool++) {
            drawPool(pool, pools);
        }
        return poolBoutCount;
    }

    public int poolBouts() {
        return poolBoutCount;
    }

    public int won(int fencer) throws IndexOutOfBoundsException {
        Fencer asked = fencerAt(fencer);
        if (asked == null) {
            throw new IndexOutOfBoundsException("no such fencer");
        }
        countPools();
        return asked.victories;
    }

    public int index(int fencer) throws IndexOutOfBoundsException {
        Fencer asked = fencerAt(fencer);
        if (asked == null) {
            throw new IndexOutOfBoundsException("no such fencer");
        }
        countPools();
        return asked.difference();
    }

    public int rankedAt(int place) throws IndexOutOfBoundsException {
        if (place < 0 || place >= fencerCount) {
            throw new IndexOutOfBoundsException("no such place");
        }
        countPools();
        return fencerInPlace(place);
    }

    // ---- the tableau

    public int drawTableau() throws IllegalStateException {
        if (!arePoolsDrawn() || isAPoolBoutOpen()) {
            throw new IllegalStateException("the pools are not drawn, or a bout of them is open");
        }
        if (tableau.isDrawn() || ground.running != null) {
            throw new IllegalStateException("the tableau is drawn, or a phrase is on");
        }
        ground.empty();
        tableau.lay(fencerCount);
        countPools();
        for (int place = 0; place < fencerCount; place++) {
            tableau.seat(place + 1, fencerInPlace(place));
        }
        tableau.settle(ground);
        return tableau.extent;
    }

    public int size() {
        return tableau.extent;
    }

    public int nodeWinner(int node) throws IndexOutOfBoundsException {
        if (!tableau.hasNode(node)) {
            throw new IndexOutOfBoundsException("no such node");
        }
        return tableau.winnerAt(node);
    }

    public int gone() {
        return tableau.goneBouts;
    }

    // ---- what the face rests on

    private static boolean isSide(int side) {
        return side == 0 || side == 1;
    }

    private static boolean isSideOrNone(int side) {
        return side == NONE || isSide(side);
    }

    private boolean isTooEarly(int time) {
        Phrase phrase = ground.running;
        return time < 0 || phrase != null && time < phrase.latestTime();
    }

    private boolean arePoolsDrawn() {
        return poolBoutCount > 0;
    }

    private Fencer fencerAt(int number) {
        return number >= 0 && number < fencerCount ? fencerRow[number] : null;
    }

    private Weapon weaponAt(int number) {
        return number >= 0 && number < weaponCount ? weaponRow[number] : null;
    }

    private Bout boutAt(int number) {
        if (number >= 0 && number < poolBoutCount) {
            return poolRow[number];
        }
        return number > NODE_BOUTS_FROM ? tableau.boutAt(number - NODE_BOUTS_FROM) : null;
    }

    private void fail(Weapon weapon) {
        weapon.state = FAILED;
        weapon.hasFailedInPools = !tableau.isDrawn();
        for (int i = 0; i < poolBoutCount; i++) {
            Bout bout = poolRow[i];
            if (bout != null) {
                bout.recount();
            }
        }
        tableau.recount();
        tableau.settle(ground);
    }

    private void drawPool(int pool, int pools) {
        for (int low = 0; low < fencerCount; low++) {
            for (int high = low + 1; high < fencerCount; high++) {
                if (poolOf(low, pools) == pool && poolOf(high, pools) == pool) {
                    addPoolBout(low, high);
                }
            }
        }
    }

    private static int poolOf(int fencer, int pools) {
        return pools > 0 ? fencer % pools : NONE;
    }

    private void addPoolBout(int low, int high) {
        if (poolBoutCount < MOST_POOL_BOUTS) {
            poolRow[poolBoutCount] = new Bout(true, low, high);
            poolBoutCount++;
        }
    }

    private boolean isAPoolBoutOpen() {
        for (int i = 0; i < poolBoutCount; i++) {
            Bout bout = poolRow[i];
            if (bout != null && bout.winningSide() == NONE) {
                return true;
            }
        }
        return false;
    }

    private void countPools() {
        for (int i = 0; i < fencerCount; i++) {
            Fencer fencer = fencerAt(i);
            if (fencer != null) {
                fencer.clear();
            }
        }
        for (int i = 0; i < poolBoutCount; i++) {
            Bout bout = poolRow[i];
            if (bout != null && bout.winningSide() != NONE) {
                countSide(bout, 0);
                countSide(bout, 1);
            }
        }
    }

    private void countSide(Bout bout, int side) {
        Fencer fencer = fencerAt(bout.fencerAt(side));
        if (fencer != null) {
            fencer.add(bout.kept.of(side), bout.kept.of(1 - side), bout.winningSide() == side);
        }
    }

    /** Rests on what countPools() has counted last. */
    private int fencerInPlace(int place) {
        for (int i = 0; i < fencerCount; i++) {
            Fencer fencer = fencerAt(i);
            if (fencer != null && fencersAhead(fencer) == place) {
                return i;
            }
        }
        return NONE;
    }

    private int fencersAhead(Fencer fencer) {
        int ahead = 0;
        for (int i = 0; i < fencerCount; i++) {
            Fencer other = fencerAt(i);
            if (other != null && other.isAheadOf(fencer)) {
                ahead++;
            }
        }
        return ahead;
    }

    /** A fencer, with what counts of the bouts of the pool. */
    private static final class Fencer {
        final int number;
        int bouts;
        int victories;
        int given;
        int got;

        Fencer(int number) {
            this.number = number;
        }

        void clear() {
            bouts = 0;
            victories = 0;
            given = 0;
            got = 0;
        }

        void add(int own, int others, boolean hasWon) {
            bouts++;
            victories += hasWon ? 1 : 0;
            given += own;
            got += others;
        }

        int difference() {
            return given - got;
        }

        boolean isAheadOf(Fencer other) {
            // Crosswise products compare the quotients exactly; without bouts there are no
            // victories, so that 1 in place of the 0 below the line makes the quotient 0.
            int own = victories * Math.max(1, other.bouts);
            int others = other.victories * Math.max(1, bouts);
            if (own != others) {
                return own > others;
            }
            if (difference() != other.difference()) {
                return difference() > other.difference();
            }
            return given != other.given ? given > other.given : number < other.number;
        }
    }

    private static final class Weapon {
        final int number;
        final int holder;
        int state = UNTESTED;
        /** Pools stand as they were when the tableau was drawn, whatever fails later. */
        boolean hasFailedInPools;

        Weapon(int number, int holder) {
            this.number = number;
            this.holder = holder;
        }

        boolean isMarkedFor(int fencer) {
            return state == MARKED && holder == fencer;
        }

        boolean isFalse(boolean inPool) {
            return inPool ? hasFailedInPools : state == FAILED;
        }
    }

    /** The raw events of a phrase, and the touches that were judged from them. */
    private static final class Phrase {
        final boolean isFoil;
        final Weapon first;
        final Weapon second;
        final int[] kinds = new int[MOST_EVENTS];
        final int[] sides = new int[MOST_EVENTS];
        final int[] times = new int[MOST_EVENTS];
        int events;
        boolean hasBenchTold;
        int benchRight = NONE;
        int given;

        Phrase(boolean isFoil, Weapon first, Weapon second) {
            this.isFoil = isFoil;
            this.first = first;
            this.second = second;
        }

        boolean isFull() {
            return events >= MOST_EVENTS;
        }

        int latestTime() {
            return events > 0 && events <= MOST_EVENTS ? times[events - 1] : 0;
        }

        void hear(int kind, int side, int time) {
            if (events < 0 || isFull()) {
                return;
            }
            kinds[events] = kind;
            sides[events] = side;
            times[events] = time;
            events++;
        }

        void tellRight(int side) {
            hasBenchTold = true;
            benchRight = side;
            given = judge();
        }

        int judge() {
            int leading = firstLight();
            if (leading == NONE) {
                return 0;
            }
            int other = otherLight(leading);
            if (!isFoil) {
                return touchOf(leading) | touchOf(other);
            }
            if (other == NONE) {
                return touchOf(leading);
            }
            int holder = rightAt(leading);
            if (holder == NONE) {
                return 0;
            }
            return touchOf(sides[leading] == holder ? leading : other);
        }

        int withoutStruck(int touches, boolean inPool) {
            int left = touches;
            if (first.isFalse(inPool)) {
                left &= TOUCH_OF_SECOND;
            }
            if (second.isFalse(inPool)) {
                left &= TOUCH_OF_FIRST;
            }
            return left;
        }

        private boolean isALight(int event) {
            return kinds[event] == ON_TARGET || isFoil && kinds[event] == OFF_TARGET;
        }

        private int firstLight() {
            for (int i = 0; i < events && i < MOST_EVENTS; i++) {
                if (isALight(i)) {
                    return i;
                }
            }
            return NONE;
        }

        private int otherLight(int leading) {
            int lockOut = isFoil ? FOIL_LOCK_OUT : EPEE_LOCK_OUT;
            for (int i = leading + 1; i < events && i < MOST_EVENTS; i++) {
                // Times are 0 or more, so that their difference can't wrap round; a sum could.
                boolean isInTime = times[i] - times[leading] <= lockOut;
                if (isInTime && isALight(i) && sides[i] != sides[leading]) {
                    return i;
                }
            }
            return NONE;
        }

        private int rightAt(int leading) {
            if (hasBenchTold) {
                return benchRight;
            }
            int holder = NONE;
            for (int i = 0; i < leading && i < MOST_EVENTS; i++) {
                if (kinds[i] == RIGHT_TOLD) {
                    holder = sides[i];
                }
            }
            return holder;
        }

        private int touchOf(int light) {
            if (light < 0 || light >= MOST_EVENTS || kinds[light] != ON_TARGET) {
                return 0;
            }
            return sides[light] == 0 ? TOUCH_OF_FIRST : TOUCH_OF_SECOND;
        }
    }

    /** The score of a bout, while its phrases are gone through in order. */
    private static final class Tally {
        int goal;
        int first;
        int second;

        void restart(int newGoal) {
            goal = newGoal;
            first = 0;
            second = 0;
        }

        boolean isAtGoal() {
            return first >= goal || second >= goal;
        }

        void add(int touches) {
            if (isAtGoal()) {
                return;
            }
            int nextFirst = first + ((touches & TOUCH_OF_FIRST) != 0 ? 1 : 0);
            int nextSecond = second + ((touches & TOUCH_OF_SECOND) != 0 ? 1 : 0);
            if (nextFirst >= goal && nextSecond >= goal) {
                return;
            }
            first = nextFirst;
            second = nextSecond;
        }

        int of(int side) {
            return side == 0 ? first : second;
        }
    }

    private static final class Bout {
        final boolean isOfPool;
        int first;
        int second;
        final Phrase[] row = new Phrase[MOST_PHRASES];
        int ended;
        int appealsOfFirst = APPEALS_AT_FIRST;
        int appealsOfSecond = APPEALS_AT_FIRST;
        final Tally kept = new Tally();

        Bout(boolean isOfPool, int first, int second) {
            this.isOfPool = isOfPool;
            this.first = first;
            this.second = second;
            kept.restart(isOfPool ? POOL_GOAL : TABLEAU_GOAL);
        }

        int fencerAt(int side) {
            return side == 0 ? first : second;
        }

        Phrase phraseAt(int number) {
            return number >= 0 && number < ended && number < MOST_PHRASES ? row[number] : null;
        }

        void keep(Phrase phrase) {
            if (ended < 0 || ended >= MOST_PHRASES) {
                return;
            }
            row[ended] = phrase;
            ended++;
            recount();
        }

        void forget() {
            for (int i = 0; i < MOST_PHRASES; i++) {
                row[i] = null;
            }
            ended = 0;
            appealsOfFirst = APPEALS_AT_FIRST;
            appealsOfSecond = APPEALS_AT_FIRST;
            kept.restart(kept.goal);
        }

        int touchesLeft(Phrase phrase) {
            return phrase.withoutStruck(phrase.given, isOfPool);
        }

        void recount() {
            kept.restart(kept.goal);
            for (int i = 0; i < ended; i++) {
                Phrase phrase = phraseAt(i);
                if (phrase != null) {
                    kept.add(touchesLeft(phrase));
                }
            }
        }

        void countAnew(Tally tally) {
            tally.restart(kept.goal);
            for (int i = 0; i < ended; i++) {
                Phrase phrase = phraseAt(i);
                if (phrase != null) {
                    tally.add(phrase.withoutStruck(phrase.judge(), isOfPool));
                }
            }
        }

        int appealsLeft(int side) {
            return side == 0 ? appealsOfFirst : appealsOfSecond;
        }

        void useAppeal(int side) {
            if (side == 0) {
                appealsOfFirst--;
            } else {
                appealsOfSecond--;
            }
        }

        int winningSide() {
            if (kept.isAtGoal() || ended >= MOST_PHRASES) {
                return kept.second > kept.first ? 1 : 0;
            }
            return NONE;
        }

        int winningFencer() {
            int side = winningSide();
            return side == NONE ? NONE : fencerAt(side);
        }

        boolean canBeFenced() {
            return first != NONE && second != NONE && winningSide() == NONE;
        }
    }

    /** The bout that is fenced, and with which weapons. */
    private static final class Piste {
        int number = NONE;
        Bout bout;
        Weapon first;
        Weapon second;
        Phrase running;
        /** Whether a phrase has ended since the bout came here last. */
        boolean hasEnded;

        void take(int newNumber, Bout newBout, Weapon ofFirst, Weapon ofSecond) {
            number = newNumber;
            bout = newBout;
            first = ofFirst;
            second = ofSecond;
            running = null;
            hasEnded = false;
        }

        void empty() {
            take(NONE, null, null, null);
        }

        int weaponNumber(int side) {
            Weapon weapon = side == 0 ? first : second;
            return weapon == null ? NONE : weapon.number;
        }

        void arm(int side, Weapon weapon) {
            if (side == 0) {
                first = weapon;
            } else {
                second = weapon;
            }
        }
    }

    private static final class Tableau {
        int extent;
        int goneBouts;
        final int[] seeds = new int[MOST_SIZE];
        final int[] winners = new int[2 * MOST_SIZE];
        final Bout[] bouts = new Bout[MOST_SIZE];

        boolean isDrawn() {
            return extent > 0;
        }

        boolean hasNode(int node) {
            return node >= 1 && node < 2 * extent && node < 2 * MOST_SIZE;
        }

        int winnerAt(int node) {
            return hasNode(node) ? winners[node] : NONE;
        }

        Bout boutAt(int node) {
            return node >= 1 && node < extent && node < MOST_SIZE ? bouts[node] : null;
        }

        void lay(int fencers) {
            int least = 2;
            while (least < fencers && least < MOST_SIZE) {
                least *= 2;
            }
            extent = least;
            for (int node = 0; node < 2 * MOST_SIZE; node++) {
                winners[node] = NONE;
            }
            for (int node = 1; node < extent && node < MOST_SIZE; node++) {
                bouts[node] = new Bout(false, NONE, NONE);
            }
            laySeeds();
        }

        private void laySeeds() {
            seeds[0] = 1;
            seeds[1] = 2;
            for (int laid = 2; laid < extent && 2 * laid <= MOST_SIZE; laid *= 2) {
                // From the end on, so that no seed is written over before it has been moved.
                for (int i = laid - 1; i >= 0; i--) {
                    int seed = seeds[i];
                    seeds[2 * i] = seed;
                    seeds[2 * i + 1] = 2 * laid + 1 - seed;
                }
            }
        }

        void seat(int seed, int fencer) {
            for (int i = 0; i < extent && i < MOST_SIZE; i++) {
                if (seeds[i] == seed) {
                    winners[extent + i] = fencer;
                }
            }
        }

        void recount() {
            for (int node = 1; node < extent; node++) {
                Bout bout = boutAt(node);
                if (bout != null) {
                    bout.recount();
                }
            }
        }

        /** From the leaves up, so that a bout that is gone is seen by all the nodes above it. */
        void settle(Piste piste) {
            for (int node = extent - 1; node >= 1; node--) {
                Bout bout = boutAt(node);
                if (bout != null && hasNode(node)) {
                    bout.first = winnerAt(2 * node);
                    bout.second = winnerAt(2 * node + 1);
                    int before = winners[node];
                    winners[node] = winnerNow(node, bout);
                    if (before != NONE && before != winners[node]) {
                        drop(boutAt(node / 2), piste);
                    }
                }
            }
        }

        private int winnerNow(int node, Bout bout) {
            // Only a leaf can be nobody: further up NONE means that it is not known yet.
            boolean isOfLeaves = 2 * node >= extent;
            if (isOfLeaves && bout.first == NONE) {
                return bout.second;
            }
            if (isOfLeaves && bout.second == NONE) {
                return bout.first;
            }
            return bout.winningFencer();
        }

        private void drop(Bout bout, Piste piste) {
            if (bout == null) {
                return;
            }
            if (bout.ended > 0) {
                goneBouts++;
            }
            bout.forget();
            if (piste.bout == bout) {
                piste.empty();
            }
        }
    }
}
