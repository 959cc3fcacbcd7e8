import java.util.Arrays;

/** All that an object answers of its state: for 'changes nothing', 'as at the beginning' and the model. */
final class State {
    private static final int[] NODES = {3, 9, 12, 3};

    private int[] answers = new int[1024];
    private int size;

    static int[] of(Face x) {
        State s = new State();
        s.read(x);
        return Arrays.copyOf(s.answers, s.size);
    }

    /** The same without the air, and without the counts of what is in it and what came out of it. */
    static int[] ofNodes(Face x) {
        State s = new State();
        for (int what : new int[] {1, 3, 4, 5}) {
            s.add(x.count(what));
        }
        s.readNodes(x);
        return Arrays.copyOf(s.answers, s.size);
    }

    private void add(int answer) {
        if (size == answers.length) {
            answers = Arrays.copyOf(answers, size * 2);
        }
        answers[size++] = answer;
    }

    private void read(Face x) {
        for (int what = 0; what < 6; what++) {
            add(x.count(what));
        }
        readAir(x);
        readNodes(x);
    }

    private void readNodes(Face x) {
        readLeaders(x);
        readKeepers(x);
        for (int voter = 0; voter < 12; voter++) {
            for (int what = 0; what < 3; what++) {
                add(x.voter(voter, what));
            }
        }
        for (int slot = 0; slot < 16; slot++) {
            add(x.agreed(slot));
            for (int copy = 0; copy < 3; copy++) {
                add(x.copy(copy, slot));
            }
            for (int voter = 0; voter < 12; voter++) {
                add(x.vote(voter, slot, false));
                add(x.vote(voter, slot, true));
            }
        }
        readUp(x);
    }

    private void readAir(Face x) {
        int many = x.count(0);
        for (int k = 0; k < many; k++) {
            for (int what = 0; what < 9; what++) {
                add(x.message(k, what));
            }
        }
    }

    private void readLeaders(Face x) {
        for (int leader = 0; leader < 3; leader++) {
            for (int what = 0; what < 14; what++) {
                add(x.leader(leader, what));
            }
            for (int slot = 0; slot < 16; slot++) {
                for (int what = 0; what < 4; what++) {
                    add(x.slot(leader, slot, what));
                }
            }
        }
    }

    private void readKeepers(Face x) {
        for (int keeper = 0; keeper < 9; keeper++) {
            for (int what = 0; what < 8; what++) {
                add(x.keeper(keeper, what));
            }
            int many = x.keeper(keeper, 3);
            for (int i = 0; i < many; i++) {
                add(x.entry(keeper, i, false));
                add(x.entry(keeper, i, true));
            }
        }
    }

    /** Whether a node is UP is only told when it is set: so it is set, and set back. */
    private void readUp(Face x) {
        for (int sort = 0; sort < NODES.length; sort++) {
            for (int node = 0; node < NODES[sort]; node++) {
                boolean was = x.up(sort, node, true);
                x.up(sort, node, was);
                add(was ? 1 : 0);
            }
        }
    }
}
