/** The calls of the document, so that the class and the model can be asked in the same way. */
interface Hall {
    int fencer();
    int weapon(int fencer);
    boolean test(int weapon, int weight, int travel);
    int fencers();
    int mark(int weapon);
    int owner(int weapon);
    int begin(int bout, int first, int second);
    int change(int side, int weapon);
    int allez();
    int contact(int side, boolean isOn, int time);
    int right(int side, int time);
    int halt();
    int appeal(int side, int right);
    int piste();
    boolean isFencing();
    int weaponOf(int side);
    int fencerOf(int bout, int side);
    int score(int bout, int side);
    int scoreAnew(int bout, int side);
    int winner(int bout);
    int phrases(int bout);
    int touches(int bout, int phrase);
    int appeals(int bout, int side);
    int drawPools(int pools);
    int poolBouts();
    int won(int fencer);
    int index(int fencer);
    int rankedAt(int place);
    int drawTableau();
    int size();
    int nodeWinner(int node);
    int gone();
}
