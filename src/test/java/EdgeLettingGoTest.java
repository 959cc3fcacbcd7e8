import java.util.Arrays;

/** The document's edges, sentence by sentence: 3 LETTING GO (to collect, kinds 9 to 14). */
public final class EdgeLettingGoTest {
    public static void main(String[] args) {
        firmHasNoGap();
        firmOfNoneAndOfAll();
        firmOfSettledAndStored();
        onlyWhenLeading();
        fromFirmToBelowBase();
        collectingIsForgotten();
        firmAsItIsNow();
        knowBelowPromised();
        knowsIfItKnewFewer();
        knownThatIsNotWaitedFor();
        knownOfAnotherNumber();
        collectAtAKeeper();
        collectBelowTheWatermark();
        collectAtKeepersThatAreNotOn();
        collectedThatIsNotWaitedFor();
        collectedOfAnotherGeneration();
        twoKeepers();
        releaseToAllVotersOfHistory();
        votesOfLowerRoundsGo();
        releaseAndPromised();
        releasedThatIsNotWaitedFor();
        releasedWhenIdle();
        Check.end();
    }

    /** Round 0 had the voters 0, 1, 2 and agreed on 5 and 6; leader 1 LEADS round 1 with the voters 3, 4, 5. */
    private static Face secondRound() {
        Face x = new Real();
        Check.lead(x, 0, 0, 7);
        Check.dues(x, "propose 0 5 = 0", "propose 0 6 = 1", "run 99 = 24");
        Check.lead(x, 1, 1, 56);
        Check.dues(x, "leader 1 9 = 2", "count 0 = 0");
        return x;
    }

    /** The same; two of three voters know, and COLLECT went out. */
    private static Face collecting() {
        Face x = secondRound();
        Check.due(x, "collect 1", true);
        Play.come(x, "KNOW 1>3", "KNOW 1>4", "KNOWN 3>1", "KNOWN 4>1");
        Play.lose(x, "KNOW 1>5");
        Check.due(x, "leader 1 10", 2);
        Play.air(x, "COLLECT 1>0", "COLLECT 1>1", "COLLECT 1>2");
        return x;
    }

    /** The same; two of three keepers have collected, and RELEASE went out. */
    private static Face releasing() {
        Face x = collecting();
        Play.come(x, "COLLECT 1>0", "COLLECT 1>1", "COLLECTED 0>1", "COLLECTED 1>1");
        Play.lose(x, "COLLECT 1>2");
        Check.due(x, "leader 1 10", 3);
        Play.air(x, "RELEASE 1>0", "RELEASE 1>1", "RELEASE 1>2");
        return x;
    }

    /** "FIRM is how many slots from 0 on, without a gap, are SETTLED or STORED for a leader." */
    private static void firmHasNoGap() {
        Face x = new Real();
        Check.lead(x, 0, 0, 1);
        Check.dues(x, "propose 0 5 = 0", "propose 0 6 = 1", "propose 0 7 = 2", "lose 0 = 5", "run 2000 = 16");
        Check.dues(x, "slot 0 0 0 = 1", "slot 0 1 0 = 3", "slot 0 2 0 = 3", "leader 0 9 = 0", "again 0 = 1", "run 5 = 5");
        Check.dues(x, "slot 0 0 0 = 2", "slot 0 0 3 = 0", "leader 0 9 = 0", "run 1 = 1", "leader 0 9 = 0", "run 1 = 1",
                "slot 0 0 0 = 3", "leader 0 9 = 3");
    }

    private static void firmOfNoneAndOfAll() {
        Face x = new Real();
        Check.lead(x, 0, 0, 1);
        Check.dues(x, "leader 0 9 = 0", "collect 0 = true");
        Play.tells(x, "KNOW 0>0", 0, 0);
        x.run(99);
        for (int slot = 0; slot < 16; slot++) {
            x.propose(0, 3);
        }
        Check.dues(x, "leader 0 9 = 0", "run 2000 = 128", "leader 0 9 = 16", "collect 0 = true");
        Play.tells(x, "KNOW 0>0", 0, 16);
        Check.dues(x, "run 99 = 8", "leader 0 10 = 3", "voter 0 1 = 16");
    }

    private static void firmOfSettledAndStored() {
        Face x = secondRound();
        Check.dues(x, "collect 1 = true", "run 99 = 18");
        Check.lead(x, 2, 2, 64);
        Check.dues(x, "leader 2 8 = 2", "leader 2 9 = 2", "propose 2 7 = 2", "leader 2 9 = 2", "run 99 = 8",
                "leader 2 9 = 3", "slot 2 1 0 = 4", "slot 2 2 0 = 3");
    }

    /** "LEADING [..]": not IDLE, not MATCHING, not ASKING; then it is false, and nothing changes. */
    private static void onlyWhenLeading() {
        Face x = new Real();
        Check.lead(x, 0, 0, 1);
        cannot(x, 1);
        Check.due(x, "begin 1 1 1", 3);
        cannot(x, 1);
        x.run(6);
        Check.due(x, "leader 1 0", 2);
        cannot(x, 1);
        Check.dues(x, "run 1 = 1", "propose 0 5 = 0");
        Play.come(x, "VOTE 0>0", "REFUSED 0>0");
        Check.due(x, "leader 0 0", 0);
        cannot(x, 0);
        Play.come(x, "ASKED 0>1");
        Check.dues(x, "leader 1 0 = 3", "collect 1 = true");
    }

    private static void cannot(Face x, int leader) {
        int[] before = State.of(x);
        Check.due(x, "collect " + leader, false);
        Check.that("a collect that cannot be changes nothing", Arrays.equals(before, State.of(x)));
    }

    /** "all slots from FIRM to below BASE being CHOSEN for it": the first of them, the last, and one at BASE. */
    private static void fromFirmToBelowBase() {
        Face x = new Real();
        Check.lead(x, 0, 0, 1);
        Check.dues(x, "propose 0 5 = 0", "propose 0 6 = 1", "propose 0 7 = 2", "run 3 = 3");
        Play.loseAll(x);
        Check.dues(x, "begin 1 1 2 = 3", "run 8 = 8", "leader 1 6 = 3", "propose 1 8 = 3", "count 0 = 4");
        cannot(x, 1);
        x.run(3);
        Check.dues(x, "deliver 2 = 6", "slot 1 1 0 = 2", "deliver 2 = 6", "slot 1 2 0 = 2", "slot 1 0 0 = 1");
        cannot(x, 1);
        Play.come(x, "VOTED 1>1");
        Check.dues(x, "slot 1 0 0 = 2", "slot 1 3 0 = 1", "leader 1 9 = 0", "collect 1 = true");
        Play.tells(x, "KNOW 1>1", 1, 0);
        lastBelowBase();
    }

    /** Of the slots 0, 1, 2 only the last is not CHOSEN; and behind a gap what is STORED counts as CHOSEN. */
    private static void lastBelowBase() {
        Face x = new Real();
        Check.lead(x, 0, 0, 1);
        Check.dues(x, "propose 0 5 = 0", "propose 0 6 = 1", "propose 0 7 = 2", "run 3 = 3");
        Play.loseAll(x);
        Check.dues(x, "begin 1 1 2 = 3", "run 8 = 8");
        Play.come(x, "VOTE 1>1", "VOTE 1>1", "VOTED 1>1", "VOTED 1>1");
        Play.lose(x, "VOTE 1>1");
        Check.dues(x, "slot 1 0 0 = 2", "slot 1 1 0 = 2", "run 99 = 12");
        Check.dues(x, "slot 1 0 0 = 3", "slot 1 1 0 = 3", "slot 1 2 0 = 1", "leader 1 9 = 2");
        cannot(x, 1);
        Check.dues(x, "again 1 = 1", "run 2 = 2", "slot 1 2 0 = 2", "leader 1 9 = 2", "collect 1 = true");
        Face y = new Real();
        Check.lead(y, 0, 0, 1);
        Check.dues(y, "propose 0 5 = 0", "propose 0 6 = 1", "run 2 = 2");
        Play.loseAll(y);
        Check.dues(y, "begin 1 1 2 = 3", "run 8 = 8", "run 4 = 4");
        Play.lose(y, "TELL 1>0", "TELL 1>1", "TELL 1>2");
        Check.dues(y, "run 99 = 6", "slot 1 0 0 = 2", "slot 1 1 0 = 3", "leader 1 9 = 0", "collect 1 = true");
        Play.tells(y, "KNOW 1>1", 1, 0);
    }

    /** "what it noted of collecting is forgotten; STAGE 1": voters that know, keepers, voters that released. */
    private static void collectingIsForgotten() {
        Face x = secondRound();
        Check.due(x, "collect 1", true);
        Play.come(x, "KNOW 1>3", "KNOWN 3>1");
        Play.loseAll(x);
        Check.dues(x, "collect 1 = true", "again 1 = 3");
        Play.loseAll(x);
        Check.due(x, "again 1", 3);
        Play.come(x, "KNOW 1>4", "KNOWN 4>1");
        Check.due(x, "leader 1 10", 1);
        Face y = collecting();
        Play.come(y, "COLLECT 1>0", "COLLECTED 0>1");
        Play.loseAll(y);
        Check.dues(y, "collect 1 = true", "leader 1 10 = 1");
        Play.come(y, "KNOW 1>3", "KNOW 1>4", "KNOWN 3>1", "KNOWN 4>1", "COLLECT 1>1", "COLLECTED 1>1");
        Check.due(y, "leader 1 10", 2);
        Play.loseAll(y);
        Check.due(y, "again 1", 2);
        Face z = releasing();
        Play.come(z, "RELEASE 1>0", "RELEASED 0>1");
        Check.due(z, "leader 1 13", 1);
        Play.loseAll(z);
        Check.dues(z, "collect 1 = true", "leader 1 10 = 1", "leader 1 13 = 3", "run 99 = 12", "leader 1 10 = 3",
                "leader 1 13 = 0", "again 1 = 0");
    }

    /** "KNOW with FIRM as it is now": what is STORED later is not told, also not when it is sent again. */
    private static void firmAsItIsNow() {
        Face x = new Real();
        Check.lead(x, 0, 0, 3);
        Check.dues(x, "propose 0 5 = 0", "run 99 = 10", "propose 0 6 = 1", "collect 0 = true");
        Play.tells(x, "KNOW 0>0", 0, 1);
        Play.lose(x, "KNOW 0>0", "KNOW 0>1");
        Check.dues(x, "run 99 = 10", "leader 0 9 = 2", "again 0 = 2");
        Play.tells(x, "KNOW 0>1", 0, 1);
        Check.dues(x, "run 99 = 10", "voter 0 1 = 1", "leader 0 10 = 3");
    }

    /** "Below what it PROMISED: REFUSED (round, PROMISED). Else it is PROMISED": below, the same, above. */
    private static void knowBelowPromised() {
        Face x = new Real();
        Check.lead(x, 1, 1, 1);
        Check.dues(x, "voter 0 0 = -1", "collect 1 = true");
        Play.twice(x, "KNOW 1>0");
        Play.twice(x, "KNOW 1>0");
        Play.come(x, "KNOW 1>0");
        Play.tells(x, "KNOWN 0>1", 1, 0);
        Check.due(x, "voter 0 0", 1);
        Play.come(x, "KNOW 1>0");
        Play.lose(x, "KNOWN 0>1");
        Play.tells(x, "KNOWN 0>1", 1, 0);
        Check.due(x, "begin 2 2 1", 5);
        Play.come(x, "MATCH 2>0", "MATCH 2>1", "MATCHED 0>2", "MATCHED 1>2", "ASK 2>0", "KNOW 1>0");
        Play.tells(x, "REFUSED 0>1", 1, 2);
        Check.dues(x, "voter 0 0 = 2", "voter 0 1 = 0");
        refusedKnowTeachesNothing();
    }

    private static void refusedKnowTeachesNothing() {
        Face x = secondRound();
        Check.due(x, "collect 1", true);
        Check.due(x, "begin 2 2 8", 6);
        Play.come(x, "MATCH 2>0", "MATCH 2>1", "MATCHED 0>2", "MATCHED 1>2", "ASK 2>3", "KNOW 1>3");
        Play.tells(x, "REFUSED 3>1", 1, 2);
        Check.dues(x, "voter 3 1 = 0", "voter 3 0 = 2");
    }

    /** "it KNOWS so many slots, if it knew fewer; KNOWN": also to less than it knows KNOWN tells KNOW's number. */
    private static void knowsIfItKnewFewer() {
        Face x = new Real();
        Check.lead(x, 0, 0, 1);
        Check.dues(x, "collect 0 = true", "propose 0 5 = 0");
        Play.come(x, "VOTE 0>0", "VOTED 0>0", "TELL 0>0", "TELL 0>1", "TOLD 0>0", "TOLD 1>0");
        Check.dues(x, "collect 0 = true", "count 0 = 3");
        Play.lose(x, "TELL 0>2");
        Check.dues(x, "message 0 4 = 0", "message 1 4 = 1", "twice 1 = 3", "deliver 1 = 9", "voter 0 1 = 1");
        Play.tells(x, "KNOWN 0>0", 0, 1);
        Play.lose(x, "KNOWN 0>0");
        Check.dues(x, "deliver 0 = 9", "voter 0 1 = 1");
        Play.tells(x, "KNOWN 0>0", 0, 0);
        Play.nothing(x, "KNOWN 0>0");
        Play.come(x, "KNOW 0>0");
        Check.due(x, "voter 0 1", 1);
        Play.tells(x, "KNOWN 0>0", 0, 1);
        Play.come(x, "KNOWN 0>0");
        Check.due(x, "leader 0 10", 2);
    }

    /** "LEADING in that round, STAGE 1": in another round, phase or stage it is nothing. */
    private static void knownThatIsNotWaitedFor() {
        Face x = secondRound();
        Check.due(x, "collect 1", true);
        Play.come(x, "KNOW 1>3", "KNOW 1>4", "KNOW 1>5", "KNOWN 3>1", "KNOWN 4>1");
        Check.due(x, "leader 1 10", 2);
        Play.nothing(x, "KNOWN 5>1");
        Face y = new Real();
        Check.lead(y, 0, 0, 1);
        Check.due(y, "collect 0", true);
        Play.come(y, "KNOW 0>0");
        Play.twice(y, "KNOWN 0>0");
        Check.due(y, "begin 0 3 1", 5);
        Play.nothing(y, "KNOWN 0>0");
        Play.come(y, "MATCH 0>0", "MATCH 0>1", "MATCHED 0>0", "MATCHED 1>0", "ASK 0>0", "ASKED 0>0");
        Check.dues(y, "leader 0 0 = 3", "collect 0 = true", "leader 0 10 = 1");
        Play.nothing(y, "KNOWN 0>0");
        Check.due(y, "leader 0 10", 1);
        Face z = secondRound();
        Check.due(z, "collect 1", true);
        Play.come(z, "KNOW 1>3", "KNOW 1>4");
        Check.due(z, "begin 2 2 32", 6);
        Play.come(z, "MATCH 2>0", "MATCH 2>1", "MATCHED 0>2", "MATCHED 1>2", "ASK 2>5", "KNOW 1>5", "REFUSED 5>1");
        Check.dues(z, "leader 1 0 = 0", "leader 1 10 = 1");
        Play.nothing(z, "KNOWN 3>1");
        Play.nothing(z, "KNOWN 4>1");
    }

    /** "STAGE 1 with that number": the number of an earlier collecting is another one. */
    private static void knownOfAnotherNumber() {
        Face x = new Real();
        Check.lead(x, 0, 0, 1);
        Check.due(x, "collect 0", true);
        Play.come(x, "KNOW 0>0");
        Check.due(x, "propose 0 5", 0);
        Play.come(x, "VOTE 0>0", "VOTED 0>0", "TELL 0>0", "TELL 0>1", "TOLD 0>0", "TOLD 1>0");
        Check.dues(x, "leader 0 9 = 1", "collect 0 = true");
        Play.nothing(x, "KNOWN 0>0");
        Play.come(x, "KNOW 0>0", "KNOWN 0>0");
        Check.due(x, "leader 0 10", 2);
        Face y = new Real();
        Check.lead(y, 0, 0, 1);
        Check.due(y, "collect 0", true);
        Play.come(y, "KNOW 0>0");
        Check.due(y, "collect 0", true);
        Play.come(y, "KNOWN 0>0");
        Check.due(y, "leader 0 10", 2);
    }

    /** "its entries of lower rounds go; its WATERMARK is that round, if it was less": its own entry and higher ones stay. */
    private static void collectAtAKeeper() {
        Face x = collecting();
        Check.due(x, "begin 2 2 1", 6);
        Play.come(x, "MATCH 2>0");
        Check.dues(x, "keeper 0 3 = 3");
        Play.come(x, "COLLECT 1>0");
        Play.all(x, "keeper 0", 2, 0, 1, 2, -1, -1, 0, 0);
        Check.dues(x, "entry 0 0 false = 1", "entry 0 0 true = 56", "entry 0 1 false = 2", "entry 0 1 true = 1");
        Play.tells(x, "COLLECTED 0>1", 0, 1);
        Play.all(x, "keeper 1", 2, 0, 0, 2, -1, -1, 0, 0);
    }

    /** A COLLECT of a lower round than the WATERMARK: nothing goes, the WATERMARK stays, and it is COLLECTED. */
    private static void collectBelowTheWatermark() {
        Face x = collecting();
        Play.twice(x, "COLLECT 1>2");
        Check.due(x, "begin 2 2 64", 7);
        Play.come(x, "MATCH 2>1", "MATCH 2>2", "MATCHED 1>2", "MATCHED 2>2", "ASK 2>0", "ASK 2>1", "ASK 2>3", "ASK 2>4",
                "ASKED 0>2", "ASKED 1>2", "ASKED 3>2", "ASKED 4>2");
        Check.dues(x, "leader 2 0 = 3", "leader 2 8 = 2", "leader 2 6 = 2", "collect 2 = true");
        Play.come(x, "KNOW 2>6", "KNOWN 6>2", "COLLECT 2>2");
        Play.all(x, "keeper 2", 2, 0, 2, 1, -1, -1, 0, 0);
        Play.come(x, "COLLECT 1>2");
        Play.all(x, "keeper 2", 2, 0, 2, 1, -1, -1, 0, 0);
        Play.tells(x, "COLLECTED 2>1", 0, 1);
        Check.due(x, "entry 2 0 false", 2);
        Play.come(x, "COLLECT 1>2");
        Play.all(x, "keeper 2", 2, 0, 2, 1, -1, -1, 0, 0);
    }

    /** "Else: as for MATCH, GONE": if it knows its NEXT set; STOPPED without it is nothing, READY neither. */
    private static void collectAtKeepersThatAreNotOn() {
        Face x = collecting();
        Check.due(x, "reform 0 0 56", 6);
        Play.come(x, "STOP 0>0", "STOP 0>1", "STOPPED 0>0", "STOPPED 1>0");
        Play.twice(x, "COLLECT 1>0");
        Play.nothing(x, "COLLECT 1>0");
        Check.dues(x, "keeper 0 3 = 2", "keeper 0 2 = 0");
        Play.come(x, "SEED 0>3", "SEED 0>4", "SEED 0>5", "SEEDED 3>0", "SEEDED 4>0", "SEEDED 5>0", "PICK 0>0", "PICK 0>1",
                "PICKED 0>0", "PICKED 1>0", "MOVED 0>0", "COLLECT 1>0");
        Play.tells(x, "GONE 0>1", 1, 56);
        Check.dues(x, "keeper 0 3 = 2", "keeper 0 2 = 0");
        Play.come(x, "GONE 0>1");
        Check.dues(x, "leader 1 4 = 56", "again 1 = 3", "keeper 3 0 = 1");
        Play.nothing(x, "COLLECT 1>3");
        Check.dues(x, "keeper 3 3 = 2", "keeper 3 2 = 0");
    }

    /** "LEADING in that round, STAGE 2": in another stage, phase or round it is nothing. */
    private static void collectedThatIsNotWaitedFor() {
        Face x = collecting();
        Play.come(x, "COLLECT 1>0", "COLLECT 1>1", "COLLECT 1>2");
        Play.twice(x, "COLLECTED 0>1");
        Play.twice(x, "COLLECTED 0>1");
        Play.come(x, "COLLECTED 0>1", "COLLECTED 1>1");
        Check.due(x, "leader 1 10", 3);
        Play.nothing(x, "COLLECTED 2>1");
        Check.dues(x, "collect 1 = true", "leader 1 10 = 1");
        Play.nothing(x, "COLLECTED 0>1");
        Check.due(x, "begin 1 4 1", 10);
        Play.nothing(x, "COLLECTED 0>1");
        Face y = new Real();
        Check.lead(y, 0, 0, 1);
        Check.due(y, "collect 0", true);
        Play.come(y, "KNOW 0>0", "KNOWN 0>0", "COLLECT 0>0", "COLLECT 0>1", "COLLECT 0>2");
        Check.due(y, "begin 0 3 2", 6);
        Play.come(y, "MATCH 0>0", "MATCH 0>1", "MATCHED 0>0", "MATCHED 1>0", "ASK 0>0", "ASKED 0>0");
        Check.due(y, "collect 0", true);
        Play.come(y, "KNOW 0>1", "KNOWN 1>0");
        Check.due(y, "leader 0 10", 2);
        Play.nothing(y, "COLLECTED 0>0");
        Play.nothing(y, "COLLECTED 1>0");
        collectedWhenIdle();
    }

    private static void collectedWhenIdle() {
        Face x = collecting();
        Play.come(x, "COLLECT 1>0", "COLLECT 1>1");
        Check.dues(x, "propose 1 9 = 2", "begin 2 2 8 = 9");
        Play.come(x, "MATCH 2>0", "MATCH 2>1", "MATCHED 0>2", "MATCHED 1>2", "ASK 2>3", "VOTE 1>3", "REFUSED 3>1");
        Check.dues(x, "leader 1 0 = 0", "leader 1 10 = 2");
        Play.nothing(x, "COLLECTED 0>1");
        Play.nothing(x, "COLLECTED 1>1");
    }

    /** "its generation being that": COLLECTED of generation 0 comes when it knows generation 1. */
    private static void collectedOfAnotherGeneration() {
        Face x = collecting();
        Play.come(x, "COLLECT 1>0", "COLLECT 1>1");
        Check.due(x, "reform 0 0 56", 6);
        Play.come(x, "STOP 0>0", "STOP 0>1", "STOP 0>2", "STOPPED 0>0", "STOPPED 1>0", "SEED 0>3", "SEED 0>4", "SEED 0>5",
                "SEEDED 3>0", "SEEDED 4>0", "SEEDED 5>0", "PICK 0>0", "PICK 0>1", "PICKED 0>0", "PICKED 1>0", "MOVED 0>2",
                "COLLECT 1>2", "GONE 2>1");
        Check.dues(x, "leader 1 3 = 1", "leader 1 10 = 2");
        Play.nothing(x, "COLLECTED 0>1");
        Play.nothing(x, "COLLECTED 1>1");
    }

    /** "it notes the keeper; with two: STAGE 3": one that answers twice is one. */
    private static void twoKeepers() {
        Face x = collecting();
        Play.twice(x, "COLLECT 1>1");
        Play.come(x, "COLLECT 1>1", "COLLECT 1>1", "COLLECTED 1>1", "COLLECTED 1>1");
        Check.dues(x, "leader 1 10 = 2", "leader 1 5 = 1", "again 1 = 2");
        Play.come(x, "COLLECT 1>2", "COLLECTED 2>1");
        Check.dues(x, "leader 1 10 = 3", "leader 1 5 = 0");
    }

    /** "RELEASE to all voters of the groups of its HISTORY; the HISTORY is empty then": of none, to none; one each. */
    private static void releaseToAllVotersOfHistory() {
        Face x = new Real();
        Check.lead(x, 0, 0, 1);
        Check.due(x, "collect 0", true);
        Play.come(x, "KNOW 0>0", "KNOWN 0>0", "COLLECT 0>0", "COLLECT 0>1", "COLLECTED 0>0", "COLLECTED 1>0");
        Check.dues(x, "leader 0 10 = 3", "leader 0 5 = 0", "leader 0 13 = 0", "again 0 = 0");
        Play.air(x, "COLLECT 0>2");
        Face y = new Real();
        Check.lead(y, 0, 0, 2051);
        Check.lead(y, 1, 1, 6);
        Check.lead(y, 2, 2, 64);
        Check.due(y, "collect 2", true);
        Play.come(y, "KNOW 2>6", "KNOWN 6>2", "COLLECT 2>0", "COLLECT 2>1", "COLLECTED 0>2", "COLLECTED 1>2");
        Play.air(y, "COLLECT 2>2", "RELEASE 2>0", "RELEASE 2>1", "RELEASE 2>2", "RELEASE 2>11");
        Play.tells(y, "RELEASE 2>11", 2, 0, 0);
        Check.dues(y, "leader 2 5 = 0", "leader 2 13 = 0");
    }

    /**
     * "its votes of lower rounds go": those of the same round and of higher ones stay, and so do what it PROMISED and
     * KNOWS.
     */
    private static void votesOfLowerRoundsGo() {
        Face x = new Real();
        Check.lead(x, 0, 0, 3);
        Check.dues(x, "propose 0 5 = 0", "run 99 = 10");
        Check.lead(x, 1, 1, 3);
        Check.dues(x, "propose 1 6 = 1", "run 99 = 10", "propose 1 7 = 2");
        Play.come(x, "VOTE 1>0");
        Play.lose(x, "VOTE 1>1");
        Check.dues(x, "collect 1 = true", "run 2 = 2");
        Play.twice(x, "KNOW 1>1");
        x.run(99);
        Check.dues(x, "leader 1 10 = 3", "leader 1 13 = 3", "vote 0 0 false = 1", "vote 0 1 false = 1",
                "vote 0 2 false = 1", "voter 0 2 = 3", "voter 1 2 = 2", "voter 0 0 = 1", "voter 0 1 = 2");
        equalHigherAndLower();
    }

    /** Voter 0 has votes of rounds 0, 1 and 2 when RELEASE of round 1 comes. */
    private static void equalHigherAndLower() {
        Face x = new Real();
        Check.lead(x, 0, 0, 1);
        Check.dues(x, "propose 0 5 = 0", "run 99 = 8", "collect 0 = true", "run 99 = 8", "voter 0 1 = 1");
        Check.lead(x, 1, 1, 1);
        Check.dues(x, "leader 1 8 = 1", "vote 0 0 false = 0", "propose 1 6 = 1", "run 99 = 8", "collect 1 = true",
                "run 8 = 8");
        Play.air(x, "RELEASE 1>0");
        Check.due(x, "begin 2 2 1", 4);
        Play.come(x, "MATCH 2>0", "MATCH 2>1", "MATCHED 0>2", "MATCHED 1>2", "ASK 2>0", "ASKED 0>2");
        Check.dues(x, "leader 2 0 = 3", "leader 2 8 = 2", "vote 0 1 false = 1", "propose 2 7 = 2");
        Play.come(x, "VOTE 2>0");
        Check.dues(x, "vote 0 0 false = 0", "vote 0 1 false = 1", "vote 0 2 false = 2", "voter 0 2 = 3");
        Play.come(x, "RELEASE 1>0");
        Play.tells(x, "RELEASED 0>1", 1, 0, 0);
        Check.dues(x, "vote 0 0 false = -1", "vote 0 0 true = -1", "vote 0 1 false = 1", "vote 0 2 false = 2",
                "voter 0 2 = 2", "voter 0 0 = 2", "voter 0 1 = 2");
    }

    /** RELEASE says nothing of PROMISED: below it, it is not REFUSED; above it, it promises nothing. */
    private static void releaseAndPromised() {
        Face x = new Real();
        Check.lead(x, 0, 0, 7);
        Check.dues(x, "propose 0 5 = 0", "run 99 = 12", "begin 1 1 56 = 3", "run 6 = 6");
        Play.lose(x, "ASK 1>2");
        Check.dues(x, "run 99 = 16", "leader 1 0 = 3", "collect 1 = true", "run 12 = 12", "voter 0 0 = 1", "voter 2 0 = 0",
                "voter 2 2 = 1");
        Play.air(x, "RELEASE 1>0", "RELEASE 1>1", "RELEASE 1>2");
        Play.come(x, "RELEASE 1>2");
        Check.dues(x, "voter 2 0 = 0", "voter 2 2 = 0");
        Play.air(x, "RELEASE 1>0", "RELEASE 1>1", "RELEASED 2>1");
        Face y = collecting();
        Check.due(y, "begin 2 2 64", 6);
        Play.come(y, "MATCH 2>0", "MATCH 2>1", "MATCHED 0>2", "MATCHED 1>2", "ASK 2>0", "COLLECT 1>0", "COLLECT 1>1",
                "COLLECTED 0>1", "COLLECTED 1>1");
        Play.loseAllBut(y, "RELEASE 1>0");
        Check.dues(y, "voter 0 0 = 2", "voter 0 2 = 2", "run 1 = 1", "voter 0 0 = 2", "voter 0 2 = 0");
        Play.air(y, "RELEASED 0>1");
        Play.tells(y, "RELEASED 0>1", 1, 0, 0, 0);
    }

    /** "STAGE 3, its ROUND being that: it notes the voter": in another stage or round it is nothing. */
    private static void releasedThatIsNotWaitedFor() {
        Face x = releasing();
        Play.come(x, "RELEASE 1>0", "RELEASE 1>1", "RELEASE 1>2");
        Play.twice(x, "RELEASED 0>1");
        Play.come(x, "RELEASED 0>1", "RELEASED 0>1");
        Check.dues(x, "leader 1 13 = 1", "collect 1 = true");
        Play.nothing(x, "RELEASED 1>1");
        Check.due(x, "leader 1 13", 3);
        Play.come(x, "KNOW 1>3", "KNOW 1>4", "KNOWN 3>1", "KNOWN 4>1");
        Check.due(x, "leader 1 10", 2);
        Play.twice(x, "RELEASED 2>1");
        Play.nothing(x, "RELEASED 2>1");
        Check.due(x, "begin 1 4 1", 8);
        Play.nothing(x, "RELEASED 2>1");
        releasedOfAnEarlierRound();
    }

    private static void releasedOfAnEarlierRound() {
        Face x = releasing();
        Play.come(x, "RELEASE 1>0");
        Check.due(x, "begin 1 4 64", 6);
        Play.lose(x, "RELEASE 1>1", "RELEASE 1>2");
        Play.come(x, "MATCH 1>0", "MATCH 1>1", "MATCHED 0>1", "MATCHED 1>1", "ASK 1>3", "ASK 1>4", "ASKED 3>1", "ASKED 4>1");
        Check.dues(x, "leader 1 0 = 3", "collect 1 = true");
        Play.come(x, "KNOW 1>6", "KNOWN 6>1", "COLLECT 1>0", "COLLECT 1>1", "COLLECTED 0>1", "COLLECTED 1>1");
        Check.dues(x, "leader 1 10 = 3", "leader 1 13 = 0");
        Play.nothing(x, "RELEASED 0>1");
    }

    /** It does not say LEADING: so a leader that is IDLE notes it, while its ROUND is the same. */
    private static void releasedWhenIdle() {
        Face x = releasing();
        Play.come(x, "RELEASE 1>0", "RELEASE 1>1");
        Check.dues(x, "propose 1 9 = 2", "begin 2 2 8 = 9");
        Play.come(x, "MATCH 2>0", "MATCH 2>1", "MATCHED 0>2", "MATCHED 1>2", "ASK 2>3", "VOTE 1>3", "REFUSED 3>1");
        Check.dues(x, "leader 1 0 = 0", "leader 1 10 = 3", "leader 1 13 = 0");
        Play.come(x, "RELEASED 1>1");
        Check.dues(x, "leader 1 13 = 2", "leader 1 0 = 0", "again 1 = 0");
    }
}
