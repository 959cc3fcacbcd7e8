import java.util.Arrays;
import java.util.List;

/**
 * Plays scenes in which messages are told by kind and nodes instead of by place: "MATCH 0>2" is the oldest
 * MATCH in the air from leader 0 to keeper 2.
 */
final class Play {
    private static final List<String> KINDS = List.of("nothing", "MATCH", "MATCHED", "ASK", "ASKED", "VOTE", "VOTED",
            "TELL", "TOLD", "KNOW", "KNOWN", "COLLECT", "COLLECTED", "RELEASE", "RELEASED", "NO", "STOP", "STOPPED",
            "SEED", "SEEDED", "PICK", "PICKED", "MOVED", "GONE", "REFUSED");

    private static String toldOf(Face x, int k) {
        return KINDS.get(x.message(k, 0)) + " " + x.message(k, 1) + ">" + x.message(k, 2);
    }

    /** The place of the oldest such message; one that is not there is a wrong answer, and -1. */
    static int place(Face x, String told) {
        int many = x.count(0);
        for (int k = 0; k < many; k++) {
            if (toldOf(x, k).equals(told)) {
                return k;
            }
        }
        Check.that(told + " is in the air", false);
        return -1;
    }

    /** Each of these messages comes, in this order. */
    static void come(Face x, String... messages) {
        for (String told : messages) {
            int k = place(x, told);
            if (k >= 0) {
                Check.due(x, "deliver " + k, KINDS.indexOf(told.split(" ")[0]));
            }
        }
    }

    static void lose(Face x, String... messages) {
        for (String told : messages) {
            int k = place(x, told);
            if (k >= 0) {
                Check.due(x, "lose " + k, KINDS.indexOf(told.split(" ")[0]));
            }
        }
    }

    static void twice(Face x, String told) {
        int k = place(x, told);
        if (k >= 0) {
            Check.due(x, "twice " + k, Math.min(400, x.count(0) + 1));
        }
    }

    static void loseAll(Face x) {
        for (int left = x.count(0); left > 0; left--) {
            x.lose(left - 1);
        }
    }

    /** Loses these messages wherever they are in the air; some of them need not be there. */
    static void loseAllOf(Face x, String... messages) {
        for (int k = x.count(0) - 1; k >= 0; k--) {
            if (List.of(messages).contains(toldOf(x, k))) {
                x.lose(k);
            }
        }
    }

    static void loseAllBut(Face x, String told) {
        for (int k = x.count(0) - 1; k >= 0; k--) {
            if (!toldOf(x, k).equals(told)) {
                x.lose(k);
            }
        }
    }

    /** Just these messages are in the air, in this order. */
    static void air(Face x, String... messages) {
        int many = x.count(0);
        String[] are = new String[many];
        for (int k = 0; k < many; k++) {
            are[k] = toldOf(x, k);
        }
        Check.that("in the air are " + Arrays.toString(are) + ", due are " + Arrays.toString(messages),
                Arrays.equals(are, messages));
    }

    /** The air is full, and these are the newest in it. */
    static void fullBehind(Face x, String... newest) {
        Check.due(x, "count 0", 400);
        for (int i = 0; i < newest.length; i++) {
            String is = toldOf(x, 400 - newest.length + i);
            Check.that("the newest are " + newest[i] + ", not " + is, is.equals(newest[i]));
        }
    }

    /** What is told with the message, from field 0 on; behind the three fields how many entries or votes it has. */
    static void tells(Face x, String told, int... due) {
        int k = place(x, told);
        for (int i = 0; i < due.length && k >= 0; i++) {
            int is = x.message(k, 3 + i);
            Check.that(told + " tells " + is + " as what = " + (3 + i) + ", due is " + due[i], is == due[i]);
        }
    }

    /** The message comes to a node that is UP, where nothing is said of it: so it is gone, and all else is as before. */
    static void nothing(Face x, String told) {
        int k = place(x, told);
        if (k < 0) {
            return;
        }
        Face getting = ((Real) x).twin();
        Face losing = ((Real) x).twin();
        getting.deliver(k);
        losing.lose(k);
        Check.that(told + " is as if it had been lost, also later", goOnAlike(getting, losing));
        int[] before = State.ofNodes(x);
        int inAir = x.count(0);
        int came = x.count(2);
        x.deliver(k);
        Check.that(told + " came", x.count(2) == came + 1);
        Check.that("no message was sent at " + told, x.count(0) == inAir - 1);
        Check.that("nothing changed at " + told, Arrays.equals(before, State.ofNodes(x)));
    }

    /** What a node noted in secret would show here: all is sent again, and comes, one by one. */
    private static boolean goOnAlike(Face one, Face other) {
        boolean alike = true;
        for (int leader = 0; leader < 3; leader++) {
            alike &= Check.answer(one, "again " + leader).equals(Check.answer(other, "again " + leader));
        }
        for (int i = 0; i < 60 && alike; i++) {
            alike = one.run(1) == other.run(1) && one.count(0) == other.count(0)
                    && Arrays.equals(State.ofNodes(one), State.ofNodes(other));
        }
        return alike;
    }

    static void all(Face x, String call, int... due) {
        for (int what = 0; what < due.length; what++) {
            Check.due(x, call + " " + what, due[what]);
        }
    }
}
