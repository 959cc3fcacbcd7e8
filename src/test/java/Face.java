/** The document's face, so that the tests can ask the class and the model of it in the same way. */
interface Face {
    int begin(int leader, int round, int group);

    int propose(int leader, int value);

    boolean collect(int leader);

    int reform(int leader, int ballot, int set);

    int again(int leader);

    int deliver(int k);

    int run(int n);

    int lose(int k);

    int twice(int k);

    boolean up(int sort, int node, boolean is);

    int message(int k, int what);

    int leader(int leader, int what);

    int slot(int leader, int slot, int what);

    int keeper(int keeper, int what);

    int entry(int keeper, int i, boolean group);

    int voter(int voter, int what);

    int vote(int voter, int slot, boolean value);

    int copy(int copy, int slot);

    int agreed(int slot);

    int count(int what);

    void clear();
}
