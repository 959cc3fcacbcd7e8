/** The class itself behind the interface of the tests. */
final class Real implements Face {
    private final RoundKeepers x = new RoundKeepers();

    public int begin(int leader, int round, int group) {
        return x.begin(leader, round, group);
    }

    public int propose(int leader, int value) {
        return x.propose(leader, value);
    }

    public boolean collect(int leader) {
        return x.collect(leader);
    }

    public int reform(int leader, int ballot, int set) {
        return x.reform(leader, ballot, set);
    }

    public int again(int leader) {
        return x.again(leader);
    }

    public int deliver(int k) {
        return x.deliver(k);
    }

    public int run(int n) {
        return x.run(n);
    }

    public int lose(int k) {
        return x.lose(k);
    }

    public int twice(int k) {
        return x.twice(k);
    }

    public boolean up(int sort, int node, boolean is) {
        return x.up(sort, node, is);
    }

    public int message(int k, int what) {
        return x.message(k, what);
    }

    public int leader(int leader, int what) {
        return x.leader(leader, what);
    }

    public int slot(int leader, int slot, int what) {
        return x.slot(leader, slot, what);
    }

    public int keeper(int keeper, int what) {
        return x.keeper(keeper, what);
    }

    public int entry(int keeper, int i, boolean group) {
        return x.entry(keeper, i, group);
    }

    public int voter(int voter, int what) {
        return x.voter(voter, what);
    }

    public int vote(int voter, int slot, boolean value) {
        return x.vote(voter, slot, value);
    }

    public int copy(int copy, int slot) {
        return x.copy(copy, slot);
    }

    public int agreed(int slot) {
        return x.agreed(slot);
    }

    public int count(int what) {
        return x.count(what);
    }

    public void clear() {
        x.clear();
    }
}
