/** The class under test, behind the interface of the tests. */
final class RealHall implements Hall {
    private final PisteLine x;

    RealHall(PisteLine x) {
        this.x = x;
    }

    public int fencer() { return x.fencer(); }
    public int weapon(int fencer) { return x.weapon(fencer); }
    public boolean test(int weapon, int weight, int travel) { return x.test(weapon, weight, travel); }
    public int fencers() { return x.fencers(); }
    public int mark(int weapon) { return x.mark(weapon); }
    public int owner(int weapon) { return x.owner(weapon); }
    public int begin(int bout, int first, int second) { return x.begin(bout, first, second); }
    public int change(int side, int weapon) { return x.change(side, weapon); }
    public int allez() { return x.allez(); }
    public int contact(int side, boolean isOn, int time) { return x.contact(side, isOn, time); }
    public int right(int side, int time) { return x.right(side, time); }
    public int halt() { return x.halt(); }
    public int appeal(int side, int right) { return x.appeal(side, right); }
    public int piste() { return x.piste(); }
    public boolean isFencing() { return x.isFencing(); }
    public int weaponOf(int side) { return x.weaponOf(side); }
    public int fencerOf(int bout, int side) { return x.fencerOf(bout, side); }
    public int score(int bout, int side) { return x.score(bout, side); }
    public int scoreAnew(int bout, int side) { return x.scoreAnew(bout, side); }
    public int winner(int bout) { return x.winner(bout); }
    public int phrases(int bout) { return x.phrases(bout); }
    public int touches(int bout, int phrase) { return x.touches(bout, phrase); }
    public int appeals(int bout, int side) { return x.appeals(bout, side); }
    public int drawPools(int pools) { return x.drawPools(pools); }
    public int poolBouts() { return x.poolBouts(); }
    public int won(int fencer) { return x.won(fencer); }
    public int index(int fencer) { return x.index(fencer); }
    public int rankedAt(int place) { return x.rankedAt(place); }
    public int drawTableau() { return x.drawTableau(); }
    public int size() { return x.size(); }
    public int nodeWinner(int node) { return x.nodeWinner(node); }
    public int gone() { return x.gone(); }
}
