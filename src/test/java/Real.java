import java.util.ArrayList;
import java.util.List;
import java.util.function.Consumer;

/** The class itself behind the interface of the tests. */
final class Real implements Face {
    private final RoundKeepers x = new RoundKeepers();
    /** The calls that may have changed something, so that another object can be brought to the same state. */
    private final List<Consumer<RoundKeepers>> calls = new ArrayList<>();

    /** Another object, on which the same calls were made. */
    Real twin() {
        Real twin = new Real();
        for (Consumer<RoundKeepers> call : calls) {
            call.accept(twin.x);
            twin.calls.add(call);
        }
        return twin;
    }

    private <T> T made(T answer, Consumer<RoundKeepers> call) {
        calls.add(call);
        return answer;
    }

    public int begin(int leader, int round, int group) {
        return made(x.begin(leader, round, group), y -> y.begin(leader, round, group));
    }

    public int propose(int leader, int value) {
        return made(x.propose(leader, value), y -> y.propose(leader, value));
    }

    public boolean collect(int leader) {
        return made(x.collect(leader), y -> y.collect(leader));
    }

    public int reform(int leader, int ballot, int set) {
        return made(x.reform(leader, ballot, set), y -> y.reform(leader, ballot, set));
    }

    public int again(int leader) {
        return made(x.again(leader), y -> y.again(leader));
    }

    public int deliver(int k) {
        return made(x.deliver(k), y -> y.deliver(k));
    }

    public int run(int n) {
        return made(x.run(n), y -> y.run(n));
    }

    public int lose(int k) {
        return made(x.lose(k), y -> y.lose(k));
    }

    public int twice(int k) {
        return made(x.twice(k), y -> y.twice(k));
    }

    public boolean up(int sort, int node, boolean is) {
        boolean was = x.up(sort, node, is);
        return was == is ? was : made(was, y -> y.up(sort, node, is));
    }

    public int message(int k, int what) {
        return x.message(k, what);
    }

    public int leader(int leader, int what) {
        return x.leader(leader, what);
    }

    public int slot(int leader, int slot, int what) {
        return x.slot(leader, slot, what);
    }

    public int keeper(int keeper, int what) {
        return x.keeper(keeper, what);
    }

    public int entry(int keeper, int i, boolean group) {
        return x.entry(keeper, i, group);
    }

    public int voter(int voter, int what) {
        return x.voter(voter, what);
    }

    public int vote(int voter, int slot, boolean value) {
        return x.vote(voter, slot, value);
    }

    public int copy(int copy, int slot) {
        return x.copy(copy, slot);
    }

    public int agreed(int slot) {
        return x.agreed(slot);
    }

    public int count(int what) {
        return x.count(what);
    }

    public void clear() {
        x.clear();
        calls.clear();
    }
}
