import java.util.ArrayDeque;
import java.util.Arrays;
import java.util.Deque;
import java.util.List;
import java.util.Random;

/**
 * Long mixed runs of calls, the same ones on the class and on the model: all answers and all states must be
 * the same. The seeds are written, so each run is the same run. Some runs open with the calls after which two
 * leaders lead without knowing of each other (see EdgeTruthTest.aBreach), as no dice would find them.
 */
public final class ModelTest {
    private static final int RUNS = 1200;
    private static final int CALLS = 300;
    private static final int AIR_FULL = 25;
    private static final int CLASHED = 26;
    private static final int BREACHED = 27;

    private final Random random;
    private final Face real = new Real();
    private final Face model = new Model();
    private final StringBuilder told = new StringBuilder();
    /** How likely things go wrong in this run, how many voters and keepers take part. */
    private final int trouble;
    private final int voters;
    private final int keepers;
    private final int haste;
    private final int stride;
    /** Whether this run fills the air. */
    private final boolean floods;
    private final Deque<String> opening = new ArrayDeque<>();
    private int highest = -1;
    private int lastBallot = -1;

    private ModelTest(int seed) {
        random = new Random(seed);
        trouble = random.nextInt(4);
        voters = 1 + random.nextInt(12);
        keepers = 6 + random.nextInt(4);
        haste = 1 + random.nextInt(3);
        stride = random.nextBoolean() ? 4 : 30;
        floods = random.nextInt(12) == 0;
        if (!floods && seed % 8 == 7) {
            openApart();
        }
    }

    private void openApart() {
        opening.addAll(List.of("begin 2 2 " + someGroup(), "begin 0 3 " + someGroup(), "deliver 1", "lose 0", "lose 0",
                "lose 1", "run 5", "reform 2 2 56", "run 300", "again 2", "run 6"));
        highest = 3;
        lastBallot = 2;
    }

    public static void main(String[] args) {
        int first = args.length > 0 ? Integer.parseInt(args[0]) : 0;
        int runs = args.length > 1 ? Integer.parseInt(args[1]) : RUNS;
        long[] reached = new long[28];
        for (int seed = first; seed < first + runs; seed++) {
            new ModelTest(seed).play(seed, reached);
        }
        for (int kind = 1; kind <= 24; kind++) {
            Check.that("messages of kind " + kind + " came", reached[kind] > 0);
        }
        Check.that("the air was full", reached[AIR_FULL] > 0);
        Check.that("there were CLASHES", reached[CLASHED] > 0);
        Check.that("there were BREACHES", reached[BREACHED] > 0);
        Check.end();
    }

    private void play(int seed, long[] reached) {
        for (int i = 0; i < CALLS; i++) {
            String call = nextCall();
            told.append(call).append('\n');
            String got = Check.answer(real, call);
            String want = Check.answer(model, call);
            if (call.startsWith("deliver") && !want.startsWith("throws")) {
                reached[Integer.parseInt(want)]++;
            }
            reached[AIR_FULL] += real.count(0) == 400 ? 1 : 0;
            reached[CLASHED] += real.count(3);
            reached[BREACHED] += real.count(4);
            boolean fine = got.equals(want) && Arrays.equals(State.of(real), State.of(model));
            if (!fine) {
                Check.that("seed " + seed + " after\n" + told + "answered " + got + ", due is " + want, false);
                return;
            }
        }
    }

    private String nextCall() {
        if (!opening.isEmpty()) {
            return opening.remove();
        }
        int air = real.count(0);
        int leader = random.nextInt(3);
        if (floods && random.nextInt(3) > 0) {
            return "again " + leader;
        }
        if (air > 0 && random.nextInt(100) < 55) {
            return airCall(air);
        }
        switch (random.nextInt(12)) {
            case 0:
            case 1:
                return "begin " + leader + " " + nextRound(leader) + " " + someGroup();
            case 2:
            case 3:
            case 4:
                return "propose " + leader + " " + (1 + random.nextInt(1000000));
            case 5:
            case 6:
                return "collect " + leader;
            case 7:
                return "reform " + leader + " " + nextBallot(leader) + " " + someSet();
            case 8:
            case 9:
                return "again " + leader;
            case 10:
                return troubleCall();
            default:
                return "run " + random.nextInt(60);
        }
    }

    private String airCall(int air) {
        int dice = random.nextInt(100);
        int k = random.nextInt(air);
        if (dice < 5 * trouble) {
            return "lose " + k;
        }
        if (dice < 9 * trouble) {
            return "twice " + k;
        }
        if (dice < 60) {
            return "deliver " + k;
        }
        return "run " + random.nextInt(haste == 1 ? 4 : haste == 2 ? 40 : 400);
    }

    private String troubleCall() {
        if (random.nextInt(200) == 0) {
            return "clear";
        }
        if (random.nextInt(12) == 0) {
            return wrongCall();
        }
        int sort = random.nextInt(4);
        int node = random.nextInt(new int[] {3, 9, 12, 3}[sort]);
        return "up " + sort + " " + node + " " + (random.nextInt(4) >= trouble);
    }

    private String wrongCall() {
        String[] calls = {
            "begin 3 0 1", "begin 0 1 1", "begin 0 300 1", "begin 0 297 0", "reform 0 1 7", "reform 0 297 15",
            "propose 0 0", "propose 3 1", "run -1", "run 2001", "deliver -1", "deliver 400", "lose 400", "twice -1",
            "collect -1", "again 3", "up 4 0 true", "up 1 9 false"};
        return calls[random.nextInt(calls.length)];
    }

    private int nextRound(int leader) {
        int own = real.leader(leader, 1);
        int from = random.nextInt(4) == 0 ? own : Math.max(own, highest);
        int round = from + 1 + Math.floorMod(leader - from - 1, 3);
        round += random.nextInt(8) == 0 ? 3 * random.nextInt(stride) : 0;
        highest = Math.max(highest, round);
        return round;
    }

    private int nextBallot(int leader) {
        int from = Math.max(-1, lastBallot - random.nextInt(5));
        int ballot = from + 1 + Math.floorMod(leader - from - 1, 3);
        lastBallot = Math.max(lastBallot, ballot);
        return ballot;
    }

    private int someGroup() {
        int bits = 0;
        int many = 1 + random.nextInt(5);
        for (int i = 0; i < many; i++) {
            bits |= 1 << random.nextInt(voters);
        }
        return bits;
    }

    private int someSet() {
        int bits = 0;
        while (Integer.bitCount(bits) < 3) {
            bits |= 1 << random.nextInt(keepers);
        }
        int used = real.leader(random.nextInt(3), 4);
        int rest = ((1 << keepers) - 1) & ~used;
        if (random.nextInt(3) > 0) {
            bits = 0;
            for (int i = 0; i < 9 && Integer.bitCount(bits) < 3; i++) {
                bits |= rest & 1 << i;
            }
        }
        return bits;
    }
}
