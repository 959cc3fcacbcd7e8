import java.util.Arrays;

/** The document's edges, promise by promise: what each call takes, answers and refuses. */
public final class EdgeCallsTest {
    private static final int LOW = Integer.MIN_VALUE;
    private static final int HIGH = Integer.MAX_VALUE;

    public static void main(String[] args) {
        begin();
        propose();
        collect();
        reform();
        again();
        deliver();
        run();
        lose();
        twice();
        up();
        message();
        leader();
        slot();
        keeper();
        entry();
        voter();
        vote();
        copy();
        agreed();
        count();
        clear();
        theFirstNamed();
        Check.end();
    }

    /**
     * Promise 2: "the round is not the leader's, or not above its ROUND, or that is no group"; how many messages are in
     * the air then.
     */
    private static void begin() {
        Face x = new Real();
        Check.argument(x, "begin 1 0 1", "begin 1 2 1", "begin 1 3 1", "begin 1 1 0", "begin 1 -2 1", "begin 1 301 1");
        Check.dues(x, "begin 1 1 1 = 3", "begin 2 2 1 = 6", "leader 1 1 = 1", "count 5 = 2");
        Check.argument(x, "begin 1 1 1", "begin 1 1 2", "begin 1 -2 1");
        Check.dues(x, "begin 1 4 31 = 9", "count 5 = 3");
        Check.argument(x, "begin 1 1 1", "begin 1 4 31", "begin 1 7 0", "begin 1 7 63", "begin 1 7 4096");
        Check.dues(x, "begin 1 298 1 = 12");
        Check.argument(x, "begin 1 298 1", "begin 1 301 1", "begin 1 295 1");
        Check.dues(x, "begin 0 0 1 = 15", "begin 2 299 2048 = 18", "count 5 = 6");
        Check.argument(x, "begin 2 299 1", "begin 2 302 1");
    }

    /** Promise 3: "NONE if the leader is not LEADING, or NEXT is 16": and then nothing changes. */
    private static void propose() {
        Face x = new Real();
        proposesNone(x, 0);
        Check.due(x, "begin 0 0 1", 3);
        proposesNone(x, 0);
        Check.dues(x, "run 99 = 6", "begin 1 1 2 = 3", "run 6 = 6", "leader 1 0 = 2");
        proposesNone(x, 1);
        Check.dues(x, "propose 0 1 = 0", "run 99 = 4", "leader 0 0 = 0", "leader 1 0 = 3");
        proposesNone(x, 0);
        for (int slot = 0; slot < 16; slot++) {
            Check.dues(x, "propose 1 1000000 = " + slot, "leader 1 7 = " + (slot + 1));
        }
        proposesNone(x, 1);
        Check.argument(x, "propose 1 0", "propose 1 1000001", "propose 2 0", "propose 2 1000001");
    }

    private static void proposesNone(Face x, int leader) {
        int[] before = State.of(x);
        Check.dues(x, "propose " + leader + " 1 = -1", "propose " + leader + " 1000000 = -1");
        Check.that("a propose that is NONE changes nothing", Arrays.equals(before, State.of(x)));
    }

    /** Promise 4: "whether it could be" */
    private static void collect() {
        Face x = new Real();
        Check.dues(x, "collect 0 = false", "begin 0 0 1 = 3", "collect 0 = false", "run 99 = 6", "collect 0 = true",
                "collect 0 = true", "count 0 = 2");
        Check.index(x, "collect -1", "collect 3", "collect " + LOW, "collect " + HIGH);
    }

    /** Promise 5: "the ballot is not the leader's (as a round), or not above its latest one, or that is no set" */
    private static void reform() {
        Face x = new Real();
        Check.argument(x, "reform 2 0 7", "reform 2 1 7", "reform 2 -1 7", "reform 2 302 7", "reform 2 2 6",
                "reform 2 2 15");
        Check.dues(x, "reform 2 2 7 = 3", "reform 1 1 7 = 6", "leader 2 12 = 7");
        Check.argument(x, "reform 2 2 7", "reform 2 2 56", "reform 2 -1 7");
        Check.dues(x, "reform 2 5 448 = 9", "leader 2 12 = 448");
        Check.argument(x, "reform 2 2 7", "reform 2 5 448", "reform 2 8 0", "reform 2 8 896");
        Check.dues(x, "reform 2 299 56 = 12");
        Check.argument(x, "reform 2 299 7", "reform 2 302 7");
        latestBallotOutlivesTheSet();
    }

    /** The latest ballot stays the latest one, whatever the generation; a round of that number is another thing. */
    private static void latestBallotOutlivesTheSet() {
        Face x = new Real();
        Check.dues(x, "reform 0 6 56 = 3", "run 99 = 24", "leader 0 3 = 1");
        Check.argument(x, "reform 0 6 448", "reform 0 3 448", "reform 0 0 448");
        Check.dues(x, "begin 0 0 1 = 3", "begin 0 3 1 = 6", "run 99 = 14", "reform 0 9 448 = 3", "run 99 = 24",
                "leader 0 3 = 2");
        Check.argument(x, "begin 0 3 1", "reform 0 9 7");
        Check.dues(x, "begin 0 6 1 = 3");
    }

    private static void again() {
        Face x = new Real();
        Check.index(x, "again -1", "again 3", "again " + LOW, "again " + HIGH);
        Check.dues(x, "again 2 = 0", "begin 2 2 1 = 3", "again 2 = 3", "count 0 = 6");
    }

    /** Promise 7: "it is lost when who should get it is DOWN: counted as LOST": its kind all the same. */
    private static void deliver() {
        Face x = new Real();
        Check.index(x, "deliver 0", "deliver -1", "deliver " + LOW, "deliver " + HIGH);
        Check.dues(x, "begin 0 0 1 = 3", "up 1 1 false = true", "deliver 1 = 1", "count 0 = 2", "count 1 = 1", "count 2 = 0",
                "keeper 1 3 = 0", "deliver 1 = 1", "count 0 = 2", "count 1 = 1", "count 2 = 1", "keeper 2 3 = 1");
        Check.index(x, "deliver 2", "deliver -1");
        Check.dues(x, "up 0 0 false = true", "deliver 1 = 2", "count 1 = 2", "count 0 = 1", "up 0 0 true = false",
                "deliver 0 = 1", "deliver 0 = 2", "leader 0 0 = 1");
        Check.index(x, "deliver 0");
    }

    /** Promise 8: "until there is none, at most n times: how often [..] n is not 0 .. 2000" */
    private static void run() {
        Face x = new Real();
        Check.argument(x, "run -1", "run 2001", "run " + LOW, "run " + HIGH);
        Check.dues(x, "run 0 = 0", "run 1 = 0", "run 2000 = 0", "begin 0 0 1 = 3");
        Check.argument(x, "run -1", "run 2001");
        Check.dues(x, "run 0 = 0", "count 0 = 3", "run 1 = 1", "count 0 = 3", "message 2 0 = 2", "run 5 = 5", "count 0 = 0",
                "count 2 = 6", "run 2000 = 0");
        Check.dues(x, "propose 0 4 = 0", "run 9 = 8");
        Check.dues(x, "propose 0 4 = 1", "up 2 0 false = true", "run 2000 = 1", "count 1 = 1", "count 2 = 14");
    }

    /** Promise 9: "(not counted as LOST): its kind" */
    private static void lose() {
        Face x = new Real();
        Check.index(x, "lose 0", "lose -1", "lose " + LOW, "lose " + HIGH);
        Check.dues(x, "begin 0 0 1 = 3", "deliver 0 = 1", "lose 2 = 2", "lose 0 = 1", "count 0 = 1", "count 1 = 0",
                "count 2 = 1", "message 0 2 = 2");
        Check.index(x, "lose 1", "lose -1");
        Check.dues(x, "lose 0 = 1", "count 0 = 0", "leader 0 0 = 1", "keeper 1 3 = 0", "keeper 2 3 = 0");
    }

    /** Promise 10: "A copy of the k-th message comes behind all others (or is LOST): how many there are." */
    private static void twice() {
        Face x = new Real();
        Check.index(x, "twice 0", "twice -1", "twice " + LOW, "twice " + HIGH);
        Check.dues(x, "begin 0 0 1 = 3", "twice 2 = 4", "message 3 2 = 2", "message 2 2 = 2", "twice 0 = 5",
                "message 4 2 = 0");
        Check.index(x, "twice 5", "twice -1");
        while (x.count(0) < 400) {
            x.twice(1);
        }
        Check.dues(x, "count 1 = 0", "twice 0 = 400", "count 1 = 1", "message 399 2 = 1");
        Check.index(x, "twice 400");
        Check.dues(x, "lose 399 = 1", "twice 0 = 400", "message 399 2 = 0", "count 1 = 1", "count 2 = 0");
        twiceWithAPick();
    }

    /** All that is told with it is copied: no PICK as NONE and 0, and one of ballot 3 as that. */
    private static void twiceWithAPick() {
        Face x = new Real();
        Check.dues(x, "begin 2 2 1 = 3", "run 99 = 6", "reform 0 3 56 = 3", "deliver 2 = 16", "twice 2 = 4");
        Play.all(x, "message 2", 17, 2, 0, 0, 3, 0, 1, -1, 0);
        Play.all(x, "message 3", 17, 2, 0, 0, 3, 0, 1, -1, 0);
        Check.dues(x, "lose 3 = 17", "run 11 = 11");
        Play.come(x, "PICK 0>0");
        Play.loseAll(x);
        Check.dues(x, "reform 1 4 448 = 3", "deliver 0 = 16", "twice 2 = 4");
        Play.all(x, "message 2", 17, 0, 1, 0, 4, 0, 1, 3, 56);
        Play.all(x, "message 3", 17, 0, 1, 0, 4, 0, 1, 3, 56);
    }

    /** Promise 11: "whether it was UP" */
    private static void up() {
        Face x = new Real();
        int[] nodes = {3, 9, 12, 3};
        for (int sort = 0; sort < 4; sort++) {
            for (int node = 0; node < nodes[sort]; node++) {
                String call = "up " + sort + " " + node;
                Check.dues(x, call + " true = true", call + " false = true", call + " false = false", call + " true = false",
                        call + " true = true", call + " false = true");
            }
        }
        for (int sort = 0; sort < 4; sort++) {
            for (int node = 0; node < nodes[sort]; node++) {
                Check.due(x, "up " + sort + " " + node + " true", false);
            }
        }
        Check.index(x, "up -1 0 true", "up 4 0 true", "up " + LOW + " 0 false", "up " + HIGH + " 0 false", "up -1 -1 true",
                "up 4 -1 true");
        upFromNowOn();
        eachSortForItself();
    }

    /** "A node is UP or DOWN from now on": what it sent before comes, and what was sent to it comes when it is UP again. */
    private static void upFromNowOn() {
        Face x = new Real();
        Check.dues(x, "begin 1 1 2 = 3", "up 0 1 false = true", "up 1 1 false = true");
        Play.come(x, "MATCH 1>0");
        Check.dues(x, "keeper 0 3 = 1", "up 0 1 true = false", "up 1 1 true = false", "up 1 0 false = true");
        Play.come(x, "MATCHED 0>1");
        Check.due(x, "leader 1 0", 1);
        Play.come(x, "MATCH 1>1", "MATCHED 1>1");
        Check.dues(x, "leader 1 0 = 3", "count 1 = 0", "count 2 = 4");
    }

    /** "Sorts: 0 leaders, 1 keepers, 2 voters, 3 copies": one of them is DOWN, those of the same number are not. */
    private static void eachSortForItself() {
        for (int down = 0; down < 4; down++) {
            Face x = new Real();
            Check.due(x, "up " + down + " 1 false", true);
            for (int sort = 0; sort < 4; sort++) {
                Check.due(x, "up " + sort + " 1 " + (sort != down), sort != down);
            }
            Check.dues(x, "begin 0 0 2 = 3", "run 99 = " + (down == 1 ? 5 : 6), "count 1 = " + (down == 1 ? 1 : 0),
                    "propose 0 5 = 0", "run 99 = " + (down == 2 ? 1 : down == 3 ? 7 : 8),
                    "count 1 = " + (down == 0 ? 0 : 1), "copy 1 0 = " + (down < 2 ? 5 : -1));
        }
    }

    /** Promise 12: "what = 0 its kind [..] 8 the set of its PICK" */
    private static void message() {
        Face x = new Real();
        Check.index(x, "message 0 0", "message -1 0", "message " + LOW + " 0", "message " + HIGH + " 0");
        Check.due(x, "reform 0 0 56", 3);
        Check.index(x, "message 0 -1", "message 0 9", "message 0 " + LOW, "message 0 " + HIGH, "message 3 0", "message -1 8",
                "message 3 9");
        Play.all(x, "message 2", 16, 0, 2, 0, 0, 0, 0, 0, 0);
        Check.due(x, "deliver 0", 16);
        Play.all(x, "message 2", 17, 0, 0, 0, 0, 0, 0, -1, 0);
        pickOfOtherKinds();
    }

    /** "(0 for other kinds than STOPPED)": also in the place of a message that had a PICK. */
    private static void pickOfOtherKinds() {
        Face x = new Real();
        Check.dues(x, "reform 0 0 56 = 3", "run 12 = 12");
        Play.come(x, "PICK 0>0");
        Play.loseAll(x);
        Check.due(x, "reform 1 1 448", 3);
        Play.come(x, "STOP 1>0");
        for (int i = 0; i < 397; i++) {
            Play.twice(x, "STOPPED 0>1");
        }
        Check.dues(x, "count 0 = 400", "message 399 7 = 0", "message 399 8 = 56", "message 399 0 = 17");
        Play.loseAll(x);
        Check.due(x, "begin 2 2 1", 3);
        for (int i = 0; i < 133; i++) {
            Check.due(x, "again 2", 3);
        }
        boolean none = true;
        for (int k = 0; k < 400; k++) {
            none &= x.message(k, 6) == 0 && x.message(k, 7) == 0 && x.message(k, 8) == 0;
        }
        Check.that("MATCH has no PICK", none);
        Play.loseAll(x);
        Check.dues(x, "up 1 0 false = true", "reform 2 2 56 = 3");
        Play.come(x, "STOP 2>1");
        Play.tells(x, "STOPPED 1>2", 0, 2, 0, 0, -1, 0);
    }

    /** Promise 13: "2 GROUP (0 at first) [..] (6 to 9: 0 when it is not LEADING) [..] 12 the set WANTED (0 at first)" */
    private static void leader() {
        Face x = new Real();
        Check.index(x, "leader 0 -1", "leader 0 14", "leader 0 " + LOW, "leader 0 " + HIGH, "leader 3 14", "leader -1 -1");
        Play.all(x, "leader 2", 0, -1, 0, 0, 7, 0, 0, 0, 0, 0, 0, 0, 0, 0);
        Check.lead(x, 0, 0, 1);
        Check.dues(x, "propose 0 5 = 0", "run 99 = 8", "collect 0 = true", "run 99 = 8", "propose 0 6 = 1");
        Play.come(x, "VOTE 0>0");
        Play.loseAll(x);
        Check.due(x, "begin 1 1 2", 3);
        x.run(8);
        Play.all(x, "leader 1", 3, 1, 2, 0, 7, 1, 2, 2, 1, 1, 0, 0, 0, 1);
        Check.dues(x, "propose 1 9 = 2", "begin 2 2 4 = 5");
        Play.come(x, "MATCH 2>0", "MATCH 2>1", "MATCHED 0>2", "MATCHED 1>2", "ASK 2>1", "VOTE 1>1", "REFUSED 1>1");
        Play.all(x, "leader 1", 0, 1, 2, 0, 7, 1, 0, 0, 0, 0, 0, 0, 0, 1);
        Play.all(x, "leader 2", 2, 2, 4, 0, 7, 2, 0, 0, 0, 0, 0, 0, 0, 0);
        Check.due(x, "begin 1 4 8", x.count(0) + 3);
        Play.all(x, "leader 1", 1, 4, 8, 0, 7, 0, 0, 0, 0, 0, 0, 0, 0, 0);
        votersNotedOfRelease();
    }

    /** "13 voters noted of ASK (or of RELEASE, from STAGE 3 on)" */
    private static void votersNotedOfRelease() {
        Face x = new Real();
        Check.lead(x, 0, 0, 7);
        Check.lead(x, 1, 1, 56);
        Check.dues(x, "leader 1 13 = 3", "collect 1 = true", "leader 1 10 = 1", "leader 1 13 = 3", "run 6 = 6",
                "leader 1 10 = 2", "leader 1 13 = 3", "run 5 = 5", "leader 1 10 = 3", "leader 1 13 = 0");
        Play.come(x, "RELEASE 1>2", "RELEASED 2>1");
        Check.dues(x, "leader 1 13 = 4", "collect 1 = true", "leader 1 10 = 1", "leader 1 13 = 3");
    }

    /** Promise 14: "0 when it is not LEADING", "NONE without; of a SETTLED one, too" */
    private static void slot() {
        Face x = new Real();
        Check.index(x, "slot 0 0 -1", "slot 0 0 4", "slot 0 0 " + LOW, "slot 0 0 " + HIGH, "slot 0 16 0", "slot 0 -1 0",
                "slot 3 16 4");
        Play.all(x, "slot 0 0", 0, -1, 0, 0);
        Check.lead(x, 0, 0, 2049);
        Play.all(x, "slot 0 15", 0, -1, 0, 0);
        Check.due(x, "propose 0 5", 0);
        Play.all(x, "slot 0 0", 1, 5, 0, 0);
        Play.come(x, "VOTE 0>11", "VOTED 11>0");
        Play.all(x, "slot 0 0", 1, 5, 2048, 0);
        Play.come(x, "VOTE 0>0", "VOTED 0>0");
        Play.all(x, "slot 0 0", 2, 5, 2049, 0);
        Play.come(x, "TELL 0>2", "TOLD 2>0");
        Play.all(x, "slot 0 0", 2, 5, 2049, 4);
        Play.come(x, "TELL 0>0", "TOLD 0>0");
        Play.all(x, "slot 0 0", 3, 5, 2049, 5);
        Check.dues(x, "run 9 = 2", "collect 0 = true", "run 99 = 10");
        Check.lead(x, 1, 1, 2);
        Play.all(x, "slot 1 0", 4, -1, 0, 0);
        Check.due(x, "begin 1 4 2", 3);
        Play.all(x, "slot 1 0", 0, -1, 0, 0);
    }

    /** Promise 15. */
    private static void keeper() {
        Face x = new Real();
        Check.index(x, "keeper 0 -1", "keeper 0 8", "keeper 0 " + LOW, "keeper 0 " + HIGH, "keeper 9 8", "keeper -1 -1");
        Play.all(x, "keeper 0", 2, 0, 0, 0, -1, -1, 0, 0);
        Play.all(x, "keeper 8", 0, -1, 0, 0, -1, -1, 0, 0);
        Check.lead(x, 0, 3, 1);
        Check.dues(x, "collect 0 = true", "run 99 = 8", "reform 0 0 448 = 3");
        x.run(1);
        Play.all(x, "keeper 0", 3, 0, 3, 1, 0, -1, 0, 0);
        x.run(11);
        Play.all(x, "keeper 6", 1, 1, 3, 1, -1, -1, 0, 0);
        x.run(3);
        Play.all(x, "keeper 0", 3, 0, 3, 1, 0, 0, 448, 0);
        x.run(99);
        Play.all(x, "keeper 0", 3, 0, 3, 1, 0, 0, 448, 448);
        Play.all(x, "keeper 6", 2, 1, 3, 1, -1, -1, 0, 0);
    }

    /** Promise 16: "by rising rounds"; no place below 0, none behind the last. */
    private static void entry() {
        Face x = new Real();
        Check.index(x, "entry 0 0 true", "entry 0 0 false", "entry 0 -1 true", "entry 8 0 true");
        int[] rounds = {0, 31, 32, 63, 64, 95, 96, 256, 287, 288, 299};
        for (int i = 0; i < rounds.length; i++) {
            Check.dues(x, "begin " + rounds[i] % 3 + " " + rounds[i] + " " + (1 << i) + " = " + (3 * (i + 1)));
        }
        x.run(33);
        Check.due(x, "keeper 2 3", rounds.length);
        for (int i = 0; i < rounds.length; i++) {
            Check.dues(x, "entry 2 " + i + " false = " + rounds[i], "entry 2 " + i + " true = " + (1 << i));
        }
        Check.index(x, "entry 2 11 false", "entry 2 11 true", "entry 2 12 true", "entry 2 -1 false",
                "entry 2 " + LOW + " true",
                "entry 2 " + HIGH + " true");
        Play.tells(x, "MATCHED 2>2", 0, 32, 0, 2);
        Play.tells(x, "MATCHED 2>0", 0, 0, 0, 0);
        Play.tells(x, "MATCHED 2>1", 0, 31, 0, 1);
        Check.due(x, "lose 32", 2);
        Play.lose(x, "MATCHED 0>2", "MATCHED 1>2", "MATCHED 2>2");
        Play.come(x, "MATCHED 0>2", "MATCHED 1>2");
        Check.dues(x, "leader 2 1 = 299", "leader 2 5 = 0");
        entriesOfTheLastRound();
    }

    /** Round 299 is matched with all that were before it, and asks the voters of them all. */
    private static void entriesOfTheLastRound() {
        Face x = new Real();
        int[] rounds = {0, 31, 32, 63, 64, 288, 298};
        for (int i = 0; i < rounds.length; i++) {
            x.begin(rounds[i] % 3, rounds[i], 1 << i);
            x.run(3);
            Play.loseAll(x);
        }
        Check.due(x, "begin 2 299 2048", 3);
        Play.come(x, "MATCH 2>0", "MATCH 2>1", "MATCHED 0>2", "MATCHED 1>2");
        Check.dues(x, "leader 2 0 = 2", "leader 2 5 = 7");
        Play.air(x, "MATCH 2>2", "ASK 2>0", "ASK 2>1", "ASK 2>2", "ASK 2>3", "ASK 2>4", "ASK 2>5", "ASK 2>6");
        for (int voter = 0; voter < 7; voter++) {
            Check.due(x, "leader 2 0", 2);
            Play.come(x, "ASK 2>" + voter, "ASKED " + voter + ">2");
        }
        Check.dues(x, "leader 2 0 = 3", "collect 2 = true");
        Play.come(x, "KNOW 2>11", "KNOWN 11>2", "COLLECT 2>1", "COLLECT 2>2", "COLLECTED 1>2", "COLLECTED 2>2");
        Check.dues(x, "keeper 1 3 = 1", "keeper 1 2 = 299", "entry 1 0 false = 299", "keeper 2 3 = 0", "keeper 0 3 = 8");
        Play.loseAllOf(x, "COLLECT 2>0", "MATCH 2>2");
        Play.air(x, "RELEASE 2>0", "RELEASE 2>1", "RELEASE 2>2", "RELEASE 2>3", "RELEASE 2>4", "RELEASE 2>5", "RELEASE 2>6");
    }

    /** Promise 17. */
    private static void voter() {
        Face x = new Real();
        Check.index(x, "voter 0 -1", "voter 0 3", "voter 0 " + LOW, "voter 0 " + HIGH, "voter 12 3", "voter -1 -1");
        Play.all(x, "voter 11", -1, 0, 0);
        Check.lead(x, 2, 299, 2048);
        Check.dues(x, "propose 2 1 = 0", "run 99 = 8", "collect 2 = true", "run 99 = 8");
        Play.all(x, "voter 11", 299, 1, 1);
        Play.all(x, "voter 10", -1, 0, 0);
    }

    /** Promise 18: "NONE without" */
    private static void vote() {
        Face x = new Real();
        Check.lead(x, 2, 299, 2048);
        Check.dues(x, "propose 2 1000000 = 0", "run 1 = 1", "vote 11 0 false = 299", "vote 11 0 true = 1000000",
                "vote 11 1 false = -1", "vote 11 1 true = -1", "vote 11 15 true = -1", "vote 10 0 false = -1");
        Check.index(x, "vote 11 -1 false", "vote 11 16 true", "vote 12 0 false", "vote -1 0 true");
    }

    /** Promise 19: "NONE without": of each copy and slot for itself, while sixteen of the TELLs come. */
    private static void copy() {
        Face x = new Real();
        Check.lead(x, 0, 0, 1);
        for (int slot = 0; slot < 16; slot++) {
            x.propose(0, slot + 1);
        }
        x.run(32);
        for (int slot = 0; slot < 16; slot++) {
            Check.dues(x, "copy 0 " + slot + " = -1", "copy 1 " + slot + " = -1", "copy 2 " + slot + " = -1");
            Play.come(x, "TELL 0>" + slot % 3);
        }
        for (int slot = 0; slot < 16; slot++) {
            for (int copy = 0; copy < 3; copy++) {
                Check.due(x, "copy " + copy + " " + slot, slot * 3 + copy < 16 ? slot + 1 : -1);
            }
        }
        Check.index(x, "copy 0 -1", "copy 0 16", "copy 3 0", "copy -1 0", "copy 0 " + HIGH, "copy 0 " + LOW);
    }

    /** Promise 20: "NONE without" */
    private static void agreed() {
        Face x = new Real();
        Check.lead(x, 0, 0, 1);
        Check.dues(x, "propose 0 5 = 0", "agreed 0 = -1", "run 1 = 1", "agreed 0 = 5", "agreed 1 = -1", "agreed 15 = -1");
        Check.index(x, "agreed -1", "agreed 16", "agreed " + LOW, "agreed " + HIGH);
    }

    /** Promise 21: "1 messages LOST, 2 that came to a node that was UP, [..] 5 rounds that were begun" */
    private static void count() {
        Face x = new Real();
        Play.all(x, "count", 0, 0, 0, 0, 0, 0);
        Check.dues(x, "begin 0 0 1 = 3", "up 1 0 false = true", "deliver 0 = 1", "lose 0 = 1", "deliver 0 = 1");
        Play.all(x, "count", 1, 1, 1, 0, 0, 1);
        Check.argument(x, "begin 0 0 1", "begin 0 1 1");
        Check.dues(x, "up 0 0 false = true");
        Check.state(x, "begin 0 3 1");
        Play.all(x, "count", 1, 1, 1, 0, 0, 1);
        Check.index(x, "count -1", "count 6", "count " + LOW, "count " + HIGH);
    }

    /** Promise 22: "All as at the beginning": whatever was before, the same calls then answer as on a new object. */
    private static void clear() {
        String[][] befores = {
            {},
            {"begin 0 0 1", "deliver 0", "deliver 2", "begin 1 1 2", "reform 2 2 56"},
            {"begin 0 0 7", "run 99", "propose 0 5", "run 3", "begin 1 1 8", "run 9", "reform 0 0 56", "run 4"},
            {"begin 0 0 1", "run 99", "propose 0 5", "run 99", "collect 0", "run 99", "propose 0 6", "begin 1 4 2",
                    "run 12"},
            {"begin 2 299 1", "run 99", "propose 2 5", "run 99", "collect 2", "run 99", "reform 2 299 56", "run 9"},
            {"reform 0 0 56", "run 12", "deliver 0", "reform 1 1 448", "run 4", "up 0 0 false", "up 1 0 false",
                    "up 2 0 false"},
            {"begin 1 298 31", "run 99", "collect 1", "run 13", "reform 1 1 56", "run 99", "reform 1 4 7", "run 10"}};
        String[][] afters = {
            {"begin 0 0 3", "again 0", "run 4", "leader 0 0", "run 99", "propose 0 9", "propose 0 8", "run 99", "collect 0",
                "run 99", "begin 1 1 4", "run 99", "again 1", "propose 1 3", "run 99"},
            {"reform 2 2 56", "again 2", "run 5", "leader 2 11", "run 99", "begin 0 0 1", "run 99", "again 0", "run 99"},
            {"again 0", "again 1", "again 2", "propose 0 1", "collect 1", "begin 1 1 2048", "deliver 0", "twice 0",
                    "run 3"}};
        for (String[] before : befores) {
            for (String[] after : afters) {
                Face x = new Real();
                Face fresh = new Real();
                for (String call : before) {
                    Check.that(call + " is no wrong call", !Check.answer(x, call).startsWith("throws"));
                }
                Check.due(x, "clear", "done");
                Check.that("all is as at the beginning", Arrays.equals(State.of(x), State.of(fresh)));
                for (String call : after) {
                    Check.due(x, call, Check.answer(fresh, call));
                    Check.that("all is as on a new object after " + call, Arrays.equals(State.of(x), State.of(fresh)));
                }
            }
        }
    }

    /**
     * "Methods throw what their comments name, the one named first when several would do [..] A call that throws
     * changes nothing."
     */
    private static void theFirstNamed() {
        Face x = new Real();
        Check.dues(x, "begin 0 3 1 = 3", "reform 0 3 56 = 6", "up 0 0 false = true", "up 0 1 false = true",
                "up 0 2 false = true");
        for (int leader : new int[] {-1, 3, LOW, HIGH}) {
            Check.index(x, "begin " + leader + " 1 0", "begin " + leader + " 6 1", "propose " + leader + " 0",
                    "propose " + leader + " 1", "collect " + leader, "reform " + leader + " 1 0",
                    "reform " + leader + " 6 7",
                    "again " + leader);
        }
        Check.argument(x, "begin 0 3 1", "begin 0 0 1", "begin 0 4 1", "begin 0 6 0", "begin 0 300 1", "propose 0 0",
                "propose 0 1000001", "propose 1 0", "reform 0 3 7", "reform 0 4 7", "reform 0 6 3", "reform 0 300 7");
        Check.state(x, "begin 0 6 1", "propose 0 1", "propose 1 1", "collect 0", "collect 1", "reform 0 6 7", "again 0",
                "again 1");
        Check.dues(x, "up 0 0 true = false", "begin 0 6 1 = 9", "reform 0 6 7 = 12", "again 0 = 6", "propose 0 1 = -1",
                "collect 0 = false");
    }
}
