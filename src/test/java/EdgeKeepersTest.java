/** The document's edges, sentence by sentence: 4 OTHER KEEPERS (to reform, kinds 16 to 23, to go on). */
public final class EdgeKeepersTest {
    public static void main(String[] args) {
        reformForgetsKeepers();
        reformForgetsWatermarkAndEntries();
        reformForgetsThePick();
        reformLeavesThePhase();
        stopWhenItKnowsItsNextSet();
        stopBelowItsBallot();
        stopAtKeepersThatAreReady();
        stopOfAnotherGeneration();
        stoppedThatIsNotWaitedFor();
        twoStopped();
        entriesNotBelowTheWatermark();
        greatestPick();
        seedWhenOff();
        seedWhenReady();
        seedWhenReadyOfAGreaterGeneration();
        seedWhenOn();
        seedWhenStopped();
        seedWhenStoppedOfTheSameGeneration();
        seededThatIsNotWaitedFor();
        allThreeSeeded();
        seededByAnotherNode();
        pickBelowItsBallot();
        pickAboveItsBallot();
        pickWhenNotStopped();
        pickWhenItKnowsItsNextSet();
        pickOfAnotherGeneration();
        pickedThatIsNotWaitedFor();
        twoPicked();
        movedToBothSets();
        movedWithAnotherSet();
        movedWhenReadyOfAnotherGeneration();
        movedWhenOn();
        movedWhenStoppedOfAnotherGeneration();
        goneOverSeveralGenerations();
        goneOfNoGreaterGeneration();
        goingOnWhileMatching();
        goingOnWhileAsking();
        goingOnWhileCollecting();
        goingOnEndsEachStep();
        Check.end();
    }

    private static final String[] STOPPED_BY_TWO = {"STOP 0>0", "STOP 0>1", "STOPPED 0>0", "STOPPED 1>0"};
    private static final String[] SEEDED_3_4_5 = {
        "SEED 0>3", "SEED 0>4", "SEED 0>5", "SEEDED 3>0", "SEEDED 4>0", "SEEDED 5>0"};
    private static final String[] PICKED_BY_TWO = {"PICK 0>0", "PICK 0>1", "PICKED 0>0", "PICKED 1>0"};

    /** Leader 0 wants the keepers 3, 4, 5 with ballot 0; all three are seeded, and PICK went out. */
    private static Face picking() {
        return pickingWith(0);
    }

    private static Face pickingWith(int ballot) {
        Face x = new Real();
        Check.due(x, "reform 0 " + ballot + " 56", 3);
        Play.come(x, STOPPED_BY_TWO);
        Play.come(x, SEEDED_3_4_5);
        Check.due(x, "leader 0 11", 3);
        return x;
    }

    /** The same; it is picked, and MOVED went out: to 0, 1, 2, 3, 4, 5. */
    private static Face moving() {
        Face x = picking();
        Play.come(x, PICKED_BY_TWO);
        Check.dues(x, "leader 0 11 = 0", "leader 0 3 = 1", "leader 0 4 = 56");
        Play.loseAllOf(x, "STOP 0>2", "PICK 0>2");
        Play.air(x, "MOVED 0>0", "MOVED 0>1", "MOVED 0>2", "MOVED 0>3", "MOVED 0>4", "MOVED 0>5");
        return x;
    }

    /** "what it noted of reforming is forgotten": keepers. */
    private static void reformForgetsKeepers() {
        Face x = new Real();
        Check.due(x, "reform 0 0 56", 3);
        Play.come(x, "STOP 0>0", "STOPPED 0>0");
        Play.loseAll(x);
        Check.dues(x, "again 0 = 2", "reform 0 3 448 = 5", "leader 0 11 = 1", "leader 0 12 = 448", "again 0 = 3");
        Play.loseAll(x);
        Check.due(x, "again 0", 3);
        Play.come(x, "STOP 0>1", "STOPPED 1>0");
        Check.due(x, "leader 0 11", 1);
        Play.come(x, "STOP 0>0", "STOPPED 0>0");
        Check.due(x, "leader 0 11", 2);
        Play.come(x, "SEED 0>6", "SEEDED 6>0", "SEED 0>7", "SEEDED 7>0");
        Check.due(x, "reform 0 6 448", 5);
        Play.loseAllBut(x, "STOP 0>0");
        Check.dues(x, "again 0 = 3", "count 0 = 4");
        Play.come(x, "STOP 0>0", "STOP 0>0", "STOP 0>1", "STOPPED 1>0");
        Play.lose(x, "STOPPED 0>0");
        Play.come(x, "STOPPED 0>0");
        Check.due(x, "leader 0 11", 2);
        Play.loseAll(x);
        Check.due(x, "again 0", 3);
    }

    /** Keeper 0 has WATERMARK 4 and the entries 4 and 7, keepers 1 and 2 have 0 and the entries 0, 1 and 4. */
    private static Face unlikeKeepers() {
        Face x = new Real();
        Check.lead(x, 0, 0, 1);
        Check.lead(x, 1, 1, 2);
        Check.lead(x, 1, 4, 4);
        Check.due(x, "collect 1", true);
        Play.come(x, "KNOW 1>2", "KNOWN 2>1", "COLLECT 1>0");
        Play.loseAll(x);
        Check.due(x, "begin 1 7 8", 3);
        Play.come(x, "MATCH 1>0");
        Play.loseAll(x);
        Check.dues(x, "keeper 0 2 = 4", "keeper 0 3 = 2", "keeper 1 2 = 0", "keeper 1 3 = 3");
        return x;
    }

    /** The same: the watermark and the entries. */
    private static void reformForgetsWatermarkAndEntries() {
        Face x = unlikeKeepers();
        Check.due(x, "reform 0 0 56", 3);
        Play.come(x, "STOP 0>0", "STOPPED 0>0");
        Play.loseAll(x);
        Check.due(x, "reform 0 3 56", 3);
        Play.come(x, "STOP 0>1", "STOP 0>2", "STOPPED 1>0", "STOPPED 2>0");
        Play.tells(x, "SEED 0>3", 1, 56, 0, 3);
        Play.come(x, "SEED 0>3");
        Check.dues(x, "keeper 3 2 = 0", "keeper 3 3 = 3", "entry 3 0 false = 0", "entry 3 2 false = 4");
    }

    /** The same: the PICK. Keeper 0 told it of leader 0's pick, then it asks again and hears of none. */
    private static void reformForgetsThePick() {
        Face x = picking();
        Play.come(x, "PICK 0>0");
        Play.loseAll(x);
        Check.due(x, "reform 1 1 448", 3);
        Play.come(x, "STOP 1>0", "STOPPED 0>1");
        Play.loseAll(x);
        Check.due(x, "reform 1 4 448", 3);
        Play.come(x, "STOP 1>1", "STOP 1>2", "STOPPED 1>1", "STOPPED 2>1");
        Check.dues(x, "leader 1 11 = 2", "leader 1 12 = 448");
        Play.tells(x, "SEED 1>6", 1, 448, 0, 0);
    }

    /** STEP and PHASE go beside one another. */
    private static void reformLeavesThePhase() {
        Face x = new Real();
        Check.lead(x, 0, 0, 1);
        Check.dues(x, "reform 0 0 56 = 3", "leader 0 0 = 3", "leader 0 11 = 1", "run 99 = 24", "leader 0 0 = 3",
                "leader 0 11 = 0", "propose 0 5 = 0", "run 99 = 8", "leader 0 9 = 1", "collect 0 = true", "run 99 = 8",
                "leader 0 10 = 3", "keeper 3 2 = 0", "keeper 0 2 = 0");
        Check.dues(x, "begin 1 1 1 = 3", "reform 1 1 448 = 6", "leader 1 0 = 1", "leader 1 11 = 1");
    }

    /** "It knows its NEXT set: GONE." Whether the ballot is below its own or above it. */
    private static void stopWhenItKnowsItsNextSet() {
        Face x = pickingWith(3);
        Check.dues(x, "reform 1 298 448 = 7", "reform 2 2 448 = 10");
        Play.come(x, PICKED_BY_TWO);
        Play.come(x, "MOVED 0>0", "STOP 2>0", "STOP 1>0");
        Play.tells(x, "GONE 0>2", 1, 56);
        Play.tells(x, "GONE 0>1", 1, 56);
        Play.all(x, "keeper 0", 3, 0, 0, 0, 3, 3, 56, 56);
    }

    /** "the ballot is not below its own (NONE at first)": 0 is not below NONE; then below, the same, above. */
    private static void stopBelowItsBallot() {
        Face x = new Real();
        Check.dues(x, "reform 0 0 56 = 3", "reform 1 4 56 = 6", "reform 2 5 448 = 9", "reform 0 3 448 = 12");
        Play.twice(x, "STOP 1>0");
        Play.come(x, "STOP 0>0");
        Check.dues(x, "keeper 0 0 = 3", "keeper 0 4 = 0");
        Play.tells(x, "STOPPED 0>0", 0, 0);
        Play.lose(x, "STOPPED 0>0");
        Play.come(x, "STOP 1>0");
        Check.due(x, "keeper 0 4", 4);
        Play.tells(x, "STOPPED 0>1", 0, 4);
        Play.lose(x, "STOPPED 0>1");
        Play.nothing(x, "STOP 0>0");
        Play.come(x, "STOP 1>0");
        Play.tells(x, "STOPPED 0>1", 0, 4);
        Play.come(x, "STOP 2>0");
        Check.dues(x, "keeper 0 4 = 5", "keeper 0 0 = 3");
    }

    /** "if it is ON or STOPPED": one that is READY, of that very generation, is neither. */
    private static void stopAtKeepersThatAreReady() {
        Face x = moving();
        Check.due(x, "reform 0 3 448", 9);
        Play.nothing(x, "STOP 0>3");
        Check.dues(x, "keeper 3 0 = 1", "keeper 3 4 = -1");
        Play.come(x, "MOVED 0>4", "STOP 0>4");
        Check.dues(x, "keeper 4 0 = 3", "keeper 4 1 = 1", "keeper 4 4 = 3");
    }

    /** From the keepers 3, 4, 5 leader 0 goes back to 0, 1, 2, of generation 2. What else is in the air stays there. */
    private static void backToTheFirst(Face x) {
        x.reform(0, 3, 7);
        Play.come(x, "STOP 0>3", "STOP 0>4", "STOPPED 3>0", "STOPPED 4>0", "SEED 0>0", "SEED 0>1", "SEED 0>2", "SEEDED 0>0",
                "SEEDED 1>0", "SEEDED 2>0", "PICK 0>3", "PICK 0>4", "PICKED 3>0", "PICKED 4>0");
        Play.come(x, "MOVED 0>0", "MOVED 0>1", "MOVED 0>2", "MOVED 0>3", "MOVED 0>4", "MOVED 0>5");
        Play.loseAllOf(x, "STOP 0>5", "PICK 0>5");
        Check.dues(x, "leader 0 3 = 2", "leader 0 4 = 7", "keeper 0 0 = 2", "keeper 0 1 = 2");
    }

    /** All six have heard of MOVED, also keeper 2: leader 0 wanted 3, 4, 5 and got all three stopped. */
    private static Face allMoved() {
        Face x = new Real();
        Check.dues(x, "reform 0 0 56 = 3", "run 99 = 24", "keeper 2 7 = 56", "keeper 3 0 = 2");
        return x;
    }

    /** "of that generation": keepers 0 and 1 are ON and STOPPED in generation 2, leader 1 knows of generation 0 alone. */
    private static void stopOfAnotherGeneration() {
        Face x = allMoved();
        backToTheFirst(x);
        Play.loseAll(x);
        Check.dues(x, "reform 1 1 448 = 3");
        Play.nothing(x, "STOP 1>0");
        Check.dues(x, "keeper 0 0 = 2", "reform 0 6 448 = 5");
        Play.come(x, "STOP 0>1");
        Check.dues(x, "keeper 1 0 = 3", "keeper 1 4 = 6", "reform 1 7 448 = 8");
        Play.lose(x, "STOP 1>1");
        Play.nothing(x, "STOP 1>1");
        Check.due(x, "keeper 1 4", 6);
    }

    /** "STOPPING, with this generation and ballot": in another step, or of an earlier ballot, it is nothing. */
    private static void stoppedThatIsNotWaitedFor() {
        Face x = new Real();
        Check.due(x, "reform 0 0 56", 3);
        Play.come(x, "STOP 0>0", "STOP 0>1", "STOP 0>2");
        Play.twice(x, "STOPPED 2>0");
        Play.twice(x, "STOPPED 2>0");
        Play.twice(x, "STOPPED 2>0");
        Play.come(x, "STOPPED 0>0", "STOPPED 1>0");
        Check.due(x, "leader 0 11", 2);
        Play.nothing(x, "STOPPED 2>0");
        Play.come(x, SEEDED_3_4_5);
        Check.due(x, "leader 0 11", 3);
        Play.nothing(x, "STOPPED 2>0");
        Play.come(x, PICKED_BY_TWO);
        Check.due(x, "leader 0 11", 0);
        Play.nothing(x, "STOPPED 2>0");
        Check.dues(x, "reform 0 3 448 = 11", "leader 0 11 = 1");
        Play.nothing(x, "STOPPED 2>0");
        Face y = new Real();
        Check.due(y, "reform 0 0 56", 3);
        Play.come(y, "STOP 0>0", "STOP 0>1");
        Check.due(y, "reform 0 3 448", 6);
        Play.nothing(y, "STOPPED 0>0");
        Play.nothing(y, "STOPPED 1>0");
        Check.due(y, "leader 0 11", 1);
    }

    /** "When two are noted": one that answers twice is one. */
    private static void twoStopped() {
        Face x = new Real();
        Check.due(x, "reform 0 0 56", 3);
        Play.twice(x, "STOP 0>2");
        Play.come(x, "STOP 0>2", "STOP 0>2", "STOPPED 2>0", "STOPPED 2>0");
        Check.dues(x, "leader 0 11 = 1", "again 0 = 2");
        Play.loseAll(x);
        Check.due(x, "again 0", 2);
        Play.come(x, "STOP 0>1", "STOPPED 1>0");
        Check.due(x, "leader 0 11", 2);
        Play.air(x, "STOP 0>0", "SEED 0>3", "SEED 0>4", "SEED 0>5");
    }

    /** "the greatest watermark [..] all entries noted that are not below the watermark": 4 and 7 are not below 4. */
    private static void entriesNotBelowTheWatermark() {
        String[][] orders = {{"STOPPED 0>0", "STOPPED 1>0"}, {"STOPPED 1>0", "STOPPED 0>0"}};
        for (String[] order : orders) {
            Face x = unlikeKeepers();
            Check.due(x, "reform 0 0 56", 3);
            Play.come(x, "STOP 0>0", "STOP 0>1");
            Play.tells(x, "STOPPED 0>0", 0, 0, 4, 2);
            Play.tells(x, "STOPPED 1>0", 0, 0, 0, 3);
            Play.come(x, order);
            Play.tells(x, "SEED 0>3", 1, 56, 4, 2);
            Play.come(x, "SEED 0>5");
            Play.all(x, "keeper 5", 1, 1, 4, 2, -1, -1, 0, 0);
            Check.dues(x, "entry 5 0 false = 4", "entry 5 0 true = 4", "entry 5 1 false = 7", "entry 5 1 true = 8");
            Play.loseAll(x);
            Check.due(x, "again 0", 2 + 1);
            Play.tells(x, "SEED 0>4", 1, 56, 4, 2);
        }
    }

    /**
     * "the PICK of the greatest ballot [..] its set is WANTED now": 56 of ballot 0 at keeper 0, 448 of ballot 1 at
     * keeper 1.
     */
    private static void greatestPick() {
        String[][] orders = {{"STOPPED 0>2", "STOPPED 1>2"}, {"STOPPED 1>2", "STOPPED 0>2"}};
        for (String[] order : orders) {
            Face x = picking();
            Play.come(x, "PICK 0>0");
            Play.loseAll(x);
            Check.due(x, "reform 1 1 448", 3);
            Play.come(x, "STOP 1>1", "STOP 1>2", "STOPPED 1>1", "STOPPED 2>1", "SEED 1>6", "SEED 1>7", "SEED 1>8",
                    "SEEDED 6>1", "SEEDED 7>1", "SEEDED 8>1", "PICK 1>1");
            Play.loseAll(x);
            Check.dues(x, "keeper 0 5 = 0", "keeper 0 6 = 56", "keeper 1 5 = 1", "keeper 1 6 = 448", "reform 2 2 67 = 3");
            Play.come(x, "STOP 2>0", "STOP 2>1");
            Play.tells(x, "STOPPED 0>2", 0, 2, 0, 0, 0, 56);
            Play.tells(x, "STOPPED 1>2", 0, 2, 0, 0, 1, 448);
            Play.come(x, order[0]);
            Check.dues(x, "leader 2 12 = 67", "leader 2 11 = 1");
            Play.come(x, order[1]);
            Check.dues(x, "leader 2 12 = 448", "leader 2 11 = 3");
            Play.air(x, "STOP 2>2", "PICK 2>0", "PICK 2>1", "PICK 2>2");
            Play.tells(x, "PICK 2>0", 0, 2, 448);
        }
    }

    /**
     * "SEED [..] to a keeper that is OFF [..]: it is READY, of that generation and with that set, has that watermark,
     * those entries"
     */
    private static void seedWhenOff() {
        Face x = unlikeKeepers();
        Check.due(x, "reform 0 0 448", 3);
        Play.come(x, STOPPED_BY_TWO);
        Play.all(x, "keeper 8", 0, -1, 0, 0, -1, -1, 0, 0);
        Play.come(x, "SEED 0>8");
        Play.all(x, "keeper 8", 1, 1, 4, 2, -1, -1, 0, 0);
        Play.tells(x, "SEEDED 8>0", 1, 0, 0, 0);
    }

    /** "or READY, of no greater generation than that": of the same one, with what the later SEED brings. */
    private static void seedWhenReady() {
        Face x = unlikeKeepers();
        Check.due(x, "reform 0 0 448", 3);
        Play.come(x, STOPPED_BY_TWO);
        Play.come(x, "SEED 0>8");
        Check.dues(x, "keeper 8 2 = 4", "keeper 8 3 = 2");
        Play.loseAll(x);
        Check.due(x, "reform 1 1 304", 3);
        Play.come(x, "STOP 1>1", "STOP 1>2", "STOPPED 1>1", "STOPPED 2>1", "SEED 1>8");
        Play.all(x, "keeper 8", 1, 1, 0, 3, -1, -1, 0, 0);
        Check.dues(x, "entry 8 0 false = 0", "entry 8 1 false = 1", "entry 8 2 false = 4");
        Play.tells(x, "SEEDED 8>1", 1);
        Play.come(x, "SEED 1>4", "SEED 1>5", "SEEDED 4>1", "SEEDED 5>1", "SEEDED 8>1", "PICK 1>1", "PICK 1>2", "PICKED 1>1",
                "PICKED 2>1", "MOVED 1>8");
        Check.dues(x, "keeper 8 0 = 2", "leader 1 4 = 304");
    }

    /** Keeper 5 is READY of generation 1, then seeded for generation 2; a SEED of generation 1 comes late. */
    private static void seedWhenReadyOfAGreaterGeneration() {
        Face x = new Real();
        Check.due(x, "reform 0 0 56", 3);
        Play.come(x, STOPPED_BY_TWO);
        Play.twice(x, "SEED 0>5");
        Play.come(x, SEEDED_3_4_5);
        Play.come(x, PICKED_BY_TWO);
        Play.come(x, "MOVED 0>3", "MOVED 0>4");
        Check.due(x, "reform 0 3 224", 10);
        Play.come(x, "STOP 0>3", "STOP 0>4", "STOPPED 3>0", "STOPPED 4>0");
        Check.due(x, "keeper 5 1", 1);
        Play.tells(x, "SEED 0>5", 1, 56);
        Play.twice(x, "SEED 0>5");
        Play.lose(x, "SEED 0>5");
        Play.tells(x, "SEED 0>5", 2, 224);
        Play.come(x, "SEED 0>5");
        Play.all(x, "keeper 5", 1, 2, 0, 0, -1, -1, 0, 0);
        Play.tells(x, "SEED 0>5", 1, 56);
        Play.nothing(x, "SEED 0>5");
        Check.due(x, "keeper 5 1", 2);
    }

    /** A keeper that is ON is none of these: keeper 2 was never stopped, keeper 3 serves already. */
    private static void seedWhenOn() {
        Face x = new Real();
        Check.due(x, "reform 0 0 28", 3);
        Play.come(x, STOPPED_BY_TWO);
        Play.nothing(x, "SEED 0>2");
        Check.due(x, "keeper 2 0", 2);
        Face y = new Real();
        Check.due(y, "reform 0 0 56", 3);
        Play.come(y, STOPPED_BY_TWO);
        Play.twice(y, "SEED 0>3");
        Play.come(y, SEEDED_3_4_5);
        Play.come(y, PICKED_BY_TWO);
        Play.come(y, "MOVED 0>3");
        Check.due(y, "keeper 3 0", 2);
        Play.nothing(y, "SEED 0>3");
        Check.due(y, "keeper 3 0", 2);
    }

    /** "or STOPPED, knowing its NEXT set, and of a lower one": not before it knows it; then all of its old time goes. */
    private static void seedWhenStopped() {
        Face x = unlikeKeepers();
        Check.due(x, "reform 0 0 25", 3);
        Play.come(x, STOPPED_BY_TWO);
        Play.twice(x, "SEED 0>0");
        Play.nothing(x, "SEED 0>0");
        Check.dues(x, "keeper 0 0 = 3", "reform 0 3 56 = 7");
        Play.come(x, STOPPED_BY_TWO);
        Play.come(x, "SEED 0>5", "SEEDED 5>0", "SEED 0>3", "SEEDED 3>0", "SEED 0>4", "SEEDED 4>0");
        Play.come(x, PICKED_BY_TWO);
        Play.come(x, "MOVED 0>0");
        Play.all(x, "keeper 0", 3, 0, 4, 2, 3, 3, 56, 56);
        Play.come(x, "SEED 0>0");
        Play.all(x, "keeper 0", 1, 1, 4, 2, -1, -1, 0, 0);
        Play.tells(x, "SEEDED 0>0", 1);
    }

    /** Keeper 3 has served in generation 1 and knows the next; a SEED of generation 1 is not of a higher one. */
    private static void seedWhenStoppedOfTheSameGeneration() {
        Face x = new Real();
        Check.due(x, "reform 0 0 56", 3);
        Play.come(x, STOPPED_BY_TWO);
        Play.twice(x, "SEED 0>3");
        Play.come(x, SEEDED_3_4_5);
        Play.come(x, PICKED_BY_TWO);
        Play.come(x, "MOVED 0>3", "MOVED 0>4");
        Check.due(x, "reform 0 3 448", 10);
        Play.come(x, "STOP 0>3", "STOP 0>4", "STOPPED 3>0", "STOPPED 4>0", "SEED 0>6", "SEED 0>7", "SEED 0>8", "SEEDED 6>0",
                "SEEDED 7>0", "SEEDED 8>0", "PICK 0>3", "PICK 0>4", "PICKED 3>0", "PICKED 4>0", "MOVED 0>3");
        Play.all(x, "keeper 3", 3, 1, 0, 0, 3, 3, 448, 448);
        Play.nothing(x, "SEED 0>3");
        Play.all(x, "keeper 3", 3, 1, 0, 0, 3, 3, 448, 448);
    }

    /** "SEEDING, that being 1 more than its own": in another step, or of another generation, it is nothing. */
    private static void seededThatIsNotWaitedFor() {
        Face x = new Real();
        Check.due(x, "reform 0 0 56", 3);
        Play.come(x, STOPPED_BY_TWO);
        Play.twice(x, "SEED 0>3");
        Play.come(x, "SEED 0>3");
        Play.twice(x, "SEEDED 3>0");
        Play.twice(x, "SEEDED 3>0");
        Play.twice(x, "SEEDED 3>0");
        Play.come(x, SEEDED_3_4_5);
        Check.due(x, "leader 0 11", 3);
        Play.nothing(x, "SEEDED 3>0");
        Play.come(x, PICKED_BY_TWO);
        Check.due(x, "leader 0 11", 0);
        Play.nothing(x, "SEEDED 3>0");
        Play.come(x, "MOVED 0>3", "MOVED 0>4", "MOVED 0>0", "MOVED 0>1");
        Check.due(x, "reform 0 3 35", 9);
        Play.nothing(x, "SEEDED 3>0");
        seededWhileStopping();
        seededOfAnotherGeneration();
    }

    /** Leader 0 was SEEDING before and begins anew: SEEDED of that time is no STOPPED. */
    private static void seededWhileStopping() {
        Face x = new Real();
        Check.due(x, "reform 0 0 56", 3);
        Play.come(x, STOPPED_BY_TWO);
        Play.come(x, "SEED 0>3");
        Check.due(x, "reform 0 3 56", x.count(0) + 3);
        Play.nothing(x, "SEEDED 3>0");
        Play.loseAll(x);
        Check.due(x, "again 0", 3);
        Play.come(x, "STOP 0>2", "STOPPED 2>0");
        Check.due(x, "leader 0 11", 1);
    }

    /** Leader 0 is SEEDING for generation 2 when the three SEEDED of generation 1 come once more. */
    private static void seededOfAnotherGeneration() {
        Face x = new Real();
        Check.due(x, "reform 0 0 56", 3);
        Play.come(x, STOPPED_BY_TWO);
        Play.come(x, "SEED 0>3", "SEED 0>4", "SEED 0>5");
        Play.twice(x, "SEEDED 5>0");
        Play.come(x, "SEEDED 3>0", "SEEDED 4>0", "SEEDED 5>0");
        Play.come(x, PICKED_BY_TWO);
        Play.come(x, "MOVED 0>3", "MOVED 0>4");
        Check.due(x, "reform 0 3 224", 10);
        Play.come(x, "STOP 0>3", "STOP 0>4", "STOPPED 3>0", "STOPPED 4>0", "SEED 0>6", "SEED 0>7", "SEEDED 6>0",
                "SEEDED 7>0");
        Check.due(x, "leader 0 11", 2);
        Play.nothing(x, "SEEDED 5>0");
        Check.due(x, "leader 0 11", 2);
        Play.come(x, "SEED 0>5", "SEEDED 5>0");
        Check.due(x, "leader 0 11", 3);
    }

    /** "When all three of the set WANTED are noted": two are not enough, and one that answers twice is one. */
    private static void allThreeSeeded() {
        Face x = new Real();
        Check.due(x, "reform 0 0 56", 3);
        Play.come(x, STOPPED_BY_TWO);
        Play.twice(x, "SEED 0>4");
        Play.come(x, "SEED 0>4", "SEED 0>4", "SEEDED 4>0", "SEEDED 4>0", "SEED 0>5", "SEEDED 5>0");
        Check.dues(x, "leader 0 11 = 2", "again 0 = 1");
        Play.come(x, "SEED 0>3", "SEEDED 3>0");
        Check.due(x, "leader 0 11", 3);
        Play.loseAllOf(x, "STOP 0>2", "SEED 0>3");
        Play.air(x, "PICK 0>0", "PICK 0>1", "PICK 0>2");
    }

    /** Keeper 3 is noted, but not of the set WANTED: the three of that are still needed. */
    private static void seededByAnotherNode() {
        Face x = new Real();
        Check.due(x, "reform 0 0 56", 3);
        Play.come(x, STOPPED_BY_TWO);
        Play.come(x, "SEED 0>3");
        Check.due(x, "reform 0 3 448", 7);
        Play.come(x, "STOP 0>2", "STOP 0>2", "STOP 0>1", "STOPPED 1>0");
        Play.lose(x, "STOPPED 2>0");
        Play.come(x, "STOPPED 2>0");
        Check.due(x, "leader 0 11", 2);
        Play.come(x, "SEED 0>6", "SEED 0>7", "SEED 0>8", "SEEDED 3>0", "SEEDED 6>0", "SEEDED 7>0");
        Check.dues(x, "leader 0 11 = 2", "again 0 = 1");
        Play.come(x, "SEEDED 8>0");
        Check.due(x, "leader 0 11", 3);
    }

    /** "PICK [..] the ballot being not below its own": keeper 0 promised ballot 1 meanwhile; keeper 1 did not. */
    private static void pickBelowItsBallot() {
        Face x = picking();
        Check.due(x, "reform 1 1 448", 7);
        Play.come(x, "STOP 1>0");
        Play.nothing(x, "PICK 0>0");
        Play.all(x, "keeper 0", 3, 0, 0, 0, 1, -1, 0, 0);
        Play.come(x, "PICK 0>1");
        Play.all(x, "keeper 1", 3, 0, 0, 0, 0, 0, 56, 0);
        Play.tells(x, "PICKED 1>0", 0, 0);
    }

    /** "ballot and set are its PICK, and its ballot that": keeper 2 had ballot 0, PICK has 4; then 2 is below. */
    private static void pickAboveItsBallot() {
        Face x = new Real();
        Check.dues(x, "reform 0 0 56 = 3", "reform 2 2 56 = 6");
        Play.come(x, "STOP 0>2");
        Check.dues(x, "reform 1 4 448 = 9");
        Play.come(x, "STOP 1>0", "STOP 1>1", "STOPPED 0>1", "STOPPED 1>1", "SEED 1>6", "SEED 1>7", "SEED 1>8", "SEEDED 6>1",
                "SEEDED 7>1", "SEEDED 8>1", "PICK 1>2");
        Play.all(x, "keeper 2", 3, 0, 0, 0, 4, 4, 448, 0);
        Play.tells(x, "PICKED 2>1", 0, 4);
        Play.nothing(x, "STOP 2>2");
        Check.due(x, "keeper 2 4", 4);
    }

    /** "to a keeper that is STOPPED": keeper 2 is ON. */
    private static void pickWhenNotStopped() {
        Face x = picking();
        Play.nothing(x, "PICK 0>2");
        Play.all(x, "keeper 2", 2, 0, 0, 0, -1, -1, 0, 0);
    }

    /** "does not know its NEXT set": a PICK that comes again after MOVED. */
    private static void pickWhenItKnowsItsNextSet() {
        Face x = picking();
        Play.twice(x, "PICK 0>0");
        Play.come(x, "PICK 0>0", "PICK 0>1", "PICKED 0>0", "PICKED 1>0", "MOVED 0>0");
        Play.all(x, "keeper 0", 3, 0, 0, 0, 0, 0, 56, 56);
        Play.nothing(x, "PICK 0>0");
    }

    /** "of that generation": keeper 0 is STOPPED with ballot 6 in generation 2; a PICK of generation 0 has ballot 8. */
    private static void pickOfAnotherGeneration() {
        Face x = new Real();
        Check.due(x, "reform 2 8 56", 3);
        Play.come(x, "STOP 2>0", "STOP 2>1", "STOP 2>2", "STOPPED 0>2", "STOPPED 1>2", "SEED 2>3", "SEED 2>4", "SEED 2>5",
                "SEEDED 3>2", "SEEDED 4>2", "SEEDED 5>2");
        Play.twice(x, "PICK 2>0");
        Play.come(x, "PICK 2>0", "PICK 2>1", "PICKED 0>2", "PICKED 1>2");
        Play.loseAllOf(x, "STOPPED 2>2", "PICK 2>2");
        Play.come(x, "MOVED 2>0", "MOVED 2>1", "MOVED 2>2", "MOVED 2>3", "MOVED 2>4", "MOVED 2>5");
        Play.air(x, "PICK 2>0");
        Check.due(x, "reform 0 0 448", 4);
        Play.come(x, "STOP 0>0", "GONE 0>0");
        Play.loseAllBut(x, "PICK 2>0");
        Check.due(x, "leader 0 3", 1);
        backToTheFirst(x);
        Check.due(x, "reform 0 6 448", x.count(0) + 3);
        Play.come(x, "STOP 0>0");
        Play.all(x, "keeper 0", 3, 2, 0, 0, 6, -1, 0, 0);
        Play.tells(x, "PICK 2>0", 0, 8, 56);
        Play.nothing(x, "PICK 2>0");
        Play.all(x, "keeper 0", 3, 2, 0, 0, 6, -1, 0, 0);
    }

    /** "PICKING, with this generation and ballot": in another step, or of an earlier ballot, it is nothing. */
    private static void pickedThatIsNotWaitedFor() {
        Face x = picking();
        Check.due(x, "leader 0 11", 3);
        Play.come(x, "STOP 0>2", "PICK 0>0", "PICK 0>1", "PICK 0>2", "PICKED 0>0", "PICKED 1>0");
        Check.dues(x, "leader 0 11 = 0", "leader 0 3 = 1");
        Play.twice(x, "PICKED 2>0");
        Play.nothing(x, "PICKED 2>0");
        Check.due(x, "reform 0 3 448", x.count(0) + 3);
        Play.nothing(x, "PICKED 2>0");
        Face y = picking();
        Play.come(y, "PICK 0>0", "PICK 0>1");
        Check.due(y, "reform 0 3 448", y.count(0) + 3);
        Play.twice(y, "PICKED 1>0");
        Play.nothing(y, "PICKED 1>0");
        Check.due(y, "leader 0 11", 1);
        Play.come(y, "STOP 0>0", "STOP 0>1", "STOPPED 0>0", "STOPPED 1>0");
        Check.dues(y, "leader 0 11 = 3", "leader 0 12 = 56");
        Play.nothing(y, "PICKED 0>0");
        Play.nothing(y, "PICKED 1>0");
        Check.dues(y, "leader 0 11 = 3", "leader 0 3 = 0");
        pickedOfAnEarlierGeneration();
    }

    /** Of ballot 0 and generation 0, while it is PICKING in generation 1. */
    private static void pickedOfAnEarlierGeneration() {
        Face x = picking();
        Play.come(x, "STOP 0>2", "PICK 0>0", "PICK 0>1", "PICK 0>2", "PICKED 0>0", "PICKED 1>0", "MOVED 0>3", "MOVED 0>4");
        Check.due(x, "reform 0 3 448", x.count(0) + 3);
        Play.come(x, "STOP 0>3", "STOP 0>4", "STOPPED 3>0", "STOPPED 4>0", "SEED 0>6", "SEED 0>7", "SEED 0>8", "SEEDED 6>0",
                "SEEDED 7>0", "SEEDED 8>0", "PICK 0>3", "PICKED 3>0");
        Check.due(x, "leader 0 11", 3);
        Play.nothing(x, "PICKED 2>0");
        Check.due(x, "leader 0 11", 3);
    }

    /** "When two are noted: STEP 0": one that answers twice is one. */
    private static void twoPicked() {
        Face x = picking();
        Play.twice(x, "PICK 0>1");
        Play.come(x, "PICK 0>1", "PICK 0>1", "PICKED 1>0", "PICKED 1>0");
        Check.dues(x, "leader 0 11 = 3", "leader 0 3 = 0", "again 0 = 2");
        Play.come(x, "PICK 0>0", "PICKED 0>0");
        Check.dues(x, "leader 0 11 = 0", "leader 0 3 = 1", "leader 0 4 = 56", "leader 0 12 = 56");
    }

    /** "MOVED to its (old) set, then to that WANTED": also when the numbers of the new ones are lower, or in both. */
    private static void movedToBothSets() {
        Face x = allMoved();
        Check.due(x, "reform 0 3 7", 3);
        Play.come(x, "STOP 0>3", "STOP 0>4", "STOPPED 3>0", "STOPPED 4>0", "SEED 0>0", "SEED 0>1", "SEED 0>2", "SEEDED 0>0",
                "SEEDED 1>0", "SEEDED 2>0", "PICK 0>3", "PICK 0>4", "PICKED 3>0", "PICKED 4>0");
        Play.loseAllOf(x, "STOP 0>5", "PICK 0>5");
        Play.air(x, "MOVED 0>3", "MOVED 0>4", "MOVED 0>5", "MOVED 0>0", "MOVED 0>1", "MOVED 0>2");
        Play.tells(x, "MOVED 0>3", 1, 7, 0);
        Face y = moving();
        Play.come(y, "MOVED 0>3", "MOVED 0>4");
        Check.due(y, "reform 0 3 224", 7);
        Play.come(y, "STOP 0>3", "STOP 0>4", "STOPPED 3>0", "STOPPED 4>0", "SEED 0>5", "SEED 0>6", "SEED 0>7", "SEEDED 5>0",
                "SEEDED 6>0", "SEEDED 7>0", "PICK 0>3", "PICK 0>4", "PICKED 3>0", "PICKED 4>0");
        Play.loseAllOf(y, "STOP 0>5", "PICK 0>5");
        Play.air(y, "MOVED 0>0", "MOVED 0>1", "MOVED 0>2", "MOVED 0>5", "MOVED 0>3", "MOVED 0>4", "MOVED 0>5", "MOVED 0>5",
                "MOVED 0>6", "MOVED 0>7");
    }

    /** "It is READY, of the next generation, with that set: ON": keeper 3 was seeded for 4, 5 beside it, not for 6, 7. */
    private static void movedWithAnotherSet() {
        Face x = picking();
        Play.loseAll(x);
        Check.due(x, "reform 1 1 200", 3);
        Play.come(x, "STOP 1>0", "STOP 1>1", "STOPPED 0>1", "STOPPED 1>1", "SEED 1>6", "SEED 1>7", "SEEDED 6>1",
                "SEEDED 7>1");
        Play.twice(x, "SEED 1>3");
        Play.come(x, "SEED 1>3", "SEEDED 3>1", "PICK 1>0", "PICK 1>1", "PICKED 0>1", "PICKED 1>1");
        Check.due(x, "leader 1 4", 200);
        Play.loseAllBut(x, "MOVED 1>3");
        Check.due(x, "reform 0 3 56", 4);
        Play.come(x, "STOP 0>0", "STOP 0>1", "STOPPED 0>0", "STOPPED 1>0");
        Check.dues(x, "leader 0 12 = 200", "leader 0 11 = 3");
        Play.come(x, "MOVED 1>3");
        Check.due(x, "keeper 3 0", 2);
        readyWithAnotherSet();
    }

    private static void readyWithAnotherSet() {
        Face x = picking();
        Check.due(x, "reform 1 1 200", x.count(0) + 3);
        Play.come(x, "STOP 1>0", "STOP 1>1", "STOPPED 0>1", "STOPPED 1>1", "SEED 1>3");
        Check.due(x, "keeper 3 0", 1);
        Play.loseAll(x);
        Check.due(x, "reform 0 3 56", 3);
        Play.come(x, "STOP 0>0", "STOP 0>1", "STOPPED 0>0", "STOPPED 1>0", "SEED 0>4", "SEED 0>5", "SEEDED 4>0",
                "SEEDED 5>0");
        Play.twice(x, "SEED 0>3");
        Play.come(x, "SEED 0>3", "SEEDED 3>0", "PICK 0>0", "PICK 0>1", "PICKED 0>0", "PICKED 1>0");
        Check.due(x, "leader 0 4", 56);
        Play.come(x, "MOVED 0>4");
        Check.dues(x, "keeper 4 0 = 2", "again 1 = 3");
        Play.come(x, "SEED 1>3");
        Check.due(x, "keeper 3 0", 1);
        Play.nothing(x, "MOVED 0>3");
        Check.due(x, "keeper 3 0", 1);
    }

    /** Keeper 5 missed MOVED and was seeded for generation 2, with the very same set; MOVED of generation 0 comes late. */
    private static void movedWhenReadyOfAnotherGeneration() {
        Face x = moving();
        Play.come(x, "MOVED 0>3", "MOVED 0>4");
        Check.due(x, "reform 0 3 56", 7);
        Play.come(x, "STOP 0>3", "STOP 0>4", "STOPPED 3>0", "STOPPED 4>0", "SEED 0>5");
        Check.dues(x, "keeper 5 0 = 1", "keeper 5 1 = 2");
        Play.tells(x, "MOVED 0>5", 0, 56);
        Play.nothing(x, "MOVED 0>5");
        Check.due(x, "keeper 5 0", 1);
    }

    /** A keeper that is ON, though of that generation, hears nothing from MOVED. */
    private static void movedWhenOn() {
        Face x = moving();
        Check.due(x, "keeper 2 0", 2);
        Play.nothing(x, "MOVED 0>2");
        Check.dues(x, "keeper 2 7 = 0", "keeper 2 0 = 2");
        Face y = moving();
        Play.twice(y, "MOVED 0>3");
        Play.come(y, "MOVED 0>3");
        Check.due(y, "keeper 3 0", 2);
        Play.nothing(y, "MOVED 0>3");
        Play.twice(y, "MOVED 0>0");
        Play.come(y, "MOVED 0>0");
        Check.due(y, "keeper 0 7", 56);
        Play.nothing(y, "MOVED 0>0");
    }

    /** "It is STOPPED and of that generation: that is its NEXT set": keeper 0 is STOPPED, of generation 2. */
    private static void movedWhenStoppedOfAnotherGeneration() {
        Face x = new Real();
        Check.due(x, "reform 0 0 56", 3);
        Play.come(x, "STOP 0>2");
        Play.come(x, STOPPED_BY_TWO);
        Play.come(x, SEEDED_3_4_5);
        Play.come(x, PICKED_BY_TWO);
        Play.twice(x, "MOVED 0>0");
        Play.loseAllOf(x, "STOPPED 2>0", "PICK 0>2");
        Play.come(x, "MOVED 0>0", "MOVED 0>1", "MOVED 0>2", "MOVED 0>3", "MOVED 0>4", "MOVED 0>5");
        Play.air(x, "MOVED 0>0");
        Check.due(x, "reform 0 3 7", 4);
        Play.come(x, "STOP 0>3", "STOP 0>4", "STOPPED 3>0", "STOPPED 4>0", "SEED 0>0", "SEED 0>1", "SEED 0>2", "SEEDED 0>0",
                "SEEDED 1>0", "SEEDED 2>0", "PICK 0>3", "PICK 0>4", "PICKED 3>0", "PICKED 4>0");
        Play.tells(x, "MOVED 0>0", 0, 56);
        Play.nothing(x, "MOVED 0>0");
        Play.come(x, "MOVED 0>0");
        Check.due(x, "keeper 0 0", 2);
        stoppedOfGenerationTwo();
        stoppedInTheSetItWasMovedTo();
    }

    /** Keeper 3 serves in generation 1, with the set 3, 4, 5, and is STOPPED; MOVED to that very set comes again. */
    private static void stoppedInTheSetItWasMovedTo() {
        Face x = moving();
        Play.twice(x, "MOVED 0>3");
        Check.due(x, "run 6", 6);
        Check.dues(x, "keeper 3 0 = 2", "reform 0 3 448 = 4");
        Play.come(x, "STOP 0>3");
        Check.due(x, "keeper 3 0", 3);
        Play.nothing(x, "MOVED 0>3");
        Play.all(x, "keeper 3", 3, 1, 0, 0, 3, -1, 0, 0);
    }

    private static void stoppedOfGenerationTwo() {
        Face x = new Real();
        Check.dues(x, "reform 0 0 56 = 3", "run 18 = 18");
        Play.air(x, "MOVED 0>0", "MOVED 0>1", "MOVED 0>2", "MOVED 0>3", "MOVED 0>4", "MOVED 0>5");
        Play.twice(x, "MOVED 0>0");
        Play.come(x, "MOVED 0>0", "MOVED 0>1", "MOVED 0>2", "MOVED 0>3", "MOVED 0>4", "MOVED 0>5");
        x.reform(0, 3, 7);
        Play.come(x, "STOP 0>3", "STOP 0>4", "STOPPED 3>0", "STOPPED 4>0", "SEED 0>0", "SEED 0>1", "SEED 0>2", "SEEDED 0>0",
                "SEEDED 1>0", "SEEDED 2>0", "PICK 0>3", "PICK 0>4", "PICKED 3>0", "PICKED 4>0");
        Play.twice(x, "MOVED 0>0");
        Play.lose(x, "MOVED 0>0");
        Play.tells(x, "MOVED 0>0", 1, 7);
        Play.come(x, "MOVED 0>0");
        Check.dues(x, "keeper 0 0 = 2", "keeper 0 1 = 2");
        Check.due(x, "reform 0 6 448", x.count(0) + 3);
        Play.come(x, "STOP 0>0");
        Check.due(x, "keeper 0 0", 3);
        Play.tells(x, "MOVED 0>0", 0, 56);
        Play.nothing(x, "MOVED 0>0");
        Check.due(x, "keeper 0 7", 0);
    }

    /** "(its own generation and 1)": keepers 0, 1, 2 served in generations 0 and 2; leaders 1 and 2 know of 0 alone. */
    private static void goneOverSeveralGenerations() {
        Face x = allMoved();
        Check.dues(x, "reform 0 3 7 = 3", "run 99 = 24", "reform 0 6 448 = 3", "run 99 = 24", "keeper 0 1 = 2",
                "keeper 0 0 = 3", "keeper 0 7 = 448", "reform 1 1 56 = 3", "begin 2 2 1 = 6");
        Play.come(x, "STOP 1>0", "MATCH 2>0");
        Play.tells(x, "GONE 0>1", 3, 448);
        Play.tells(x, "GONE 0>2", 3, 448);
        Play.come(x, "GONE 0>1", "GONE 0>2");
        Check.dues(x, "leader 1 3 = 3", "leader 1 4 = 448", "leader 1 11 = 0", "leader 2 3 = 3", "leader 2 4 = 448",
                "again 2 = 3");
        Play.come(x, "MATCH 2>6", "MATCH 2>8", "MATCHED 6>2", "MATCHED 8>2");
        Check.due(x, "leader 2 0", 3);
    }

    /** "GONE [..] its own being lower": the same one, told a second time, and a lower one are nothing. */
    private static void goneOfNoGreaterGeneration() {
        Face x = new Real();
        Check.due(x, "begin 1 1 1", 3);
        Check.dues(x, "reform 0 0 56 = 6");
        Play.come(x, "STOP 0>0", "STOP 0>1", "STOP 0>2", "STOPPED 0>0", "STOPPED 1>0");
        Play.come(x, SEEDED_3_4_5);
        Play.come(x, PICKED_BY_TWO);
        Play.come(x, "MOVED 0>0", "MOVED 0>1", "MOVED 0>2", "MOVED 0>3", "MOVED 0>4", "MOVED 0>5", "MATCH 1>0", "MATCH 1>1",
                "MATCH 1>2");
        Play.loseAllOf(x, "STOPPED 2>0", "PICK 0>2");
        Play.air(x, "GONE 0>1", "GONE 1>1", "GONE 2>1");
        Play.come(x, "GONE 0>1");
        Check.dues(x, "leader 1 3 = 1", "leader 1 4 = 56", "again 1 = 3", "reform 1 1 448 = 8", "leader 1 11 = 1");
        Play.come(x, "MATCH 1>3", "MATCHED 3>1");
        Play.nothing(x, "GONE 1>1");
        Check.dues(x, "leader 1 11 = 1", "leader 1 0 = 1");
        Play.come(x, "MATCH 1>4", "MATCHED 4>1");
        Check.due(x, "leader 1 0", 3);
        Play.come(x, "STOP 1>3", "STOP 1>4", "STOPPED 3>1", "STOPPED 4>1", "SEED 1>6", "SEED 1>7", "SEED 1>8", "SEEDED 6>1",
                "SEEDED 7>1", "SEEDED 8>1", "PICK 1>3", "PICK 1>4", "PICKED 3>1", "PICKED 4>1");
        Check.dues(x, "leader 1 3 = 2", "leader 1 4 = 448");
        Play.nothing(x, "GONE 2>1");
        Check.dues(x, "leader 1 3 = 2", "leader 1 4 = 448");
    }

    /** Leader 0 moves on from 0, 1, 2 (1 and 2 are stopped for it) to 3, 4, 5; MOVED comes to all but 0. */
    private static void moveWithoutKeeper0(Face x) {
        x.reform(0, 9, 56);
        Play.come(x, "STOP 0>1", "STOP 0>2", "STOPPED 1>0", "STOPPED 2>0", "SEED 0>3", "SEED 0>4", "SEED 0>5", "SEEDED 3>0",
                "SEEDED 4>0", "SEEDED 5>0", "PICK 0>1", "PICK 0>2", "PICKED 1>0", "PICKED 2>0", "MOVED 0>1", "MOVED 0>2",
                "MOVED 0>3", "MOVED 0>4", "MOVED 0>5");
        Play.loseAllOf(x, "STOP 0>0", "PICK 0>0", "MOVED 0>0");
    }

    /** "keepers noted (when it is MATCHING, with their watermarks and entries [..]) are forgotten" */
    private static void goingOnWhileMatching() {
        Face x = unlikeKeepers();
        Check.due(x, "begin 2 8 16", 3);
        Play.come(x, "MATCH 2>0", "MATCHED 0>2");
        Check.due(x, "leader 2 5", 2);
        moveWithoutKeeper0(x);
        Play.come(x, "MATCH 2>1", "GONE 1>2");
        Check.dues(x, "leader 2 0 = 1", "leader 2 1 = 8", "leader 2 2 = 16", "leader 2 3 = 1", "leader 2 4 = 56",
                "leader 2 5 = 0");
        Play.loseAll(x);
        Check.due(x, "again 2", 3);
        Play.come(x, "MATCH 2>3", "MATCHED 3>2");
        Check.dues(x, "leader 2 0 = 1", "leader 2 5 = 3");
        Play.come(x, "MATCH 2>4", "MATCHED 4>2");
        Check.dues(x, "leader 2 0 = 2", "leader 2 5 = 3");
        Play.air(x, "MATCH 2>5", "ASK 2>0", "ASK 2>1", "ASK 2>2");
    }

    /** When it is not MATCHING its HISTORY stays, and so do the voters noted. */
    private static void goingOnWhileAsking() {
        Face x = new Real();
        Check.lead(x, 0, 0, 7);
        Check.due(x, "begin 2 2 16", 3);
        Play.come(x, "MATCH 2>0", "MATCH 2>1", "MATCHED 0>2", "MATCHED 1>2", "ASK 2>0", "ASKED 0>2");
        Check.dues(x, "leader 2 0 = 2", "leader 2 5 = 1", "leader 2 13 = 1");
        moveWithoutKeeper0(x);
        Play.come(x, "MATCH 2>2", "GONE 2>2");
        Play.all(x, "leader 2", 2, 2, 16, 1, 56, 1, 0, 0, 0, 0, 0, 0, 0, 1);
        Play.loseAll(x);
        Check.due(x, "again 2", 2);
        Play.come(x, "ASK 2>2", "ASKED 2>2");
        Check.dues(x, "leader 2 0 = 3", "leader 2 5 = 1", "leader 2 13 = 5");
    }

    /** "of collecting": a keeper of the old set that was noted does not count beside one of the new. */
    private static void goingOnWhileCollecting() {
        Face x = new Real();
        Check.lead(x, 0, 0, 1);
        Check.lead(x, 1, 1, 2);
        Check.due(x, "collect 1", true);
        Play.come(x, "KNOW 1>1", "KNOWN 1>1", "COLLECT 1>0", "COLLECTED 0>1");
        Check.due(x, "leader 1 10", 2);
        moveWithoutKeeper0(x);
        Play.come(x, "COLLECT 1>1", "GONE 1>1");
        Check.dues(x, "leader 1 0 = 3", "leader 1 10 = 2", "leader 1 5 = 1", "leader 1 3 = 1");
        Play.loseAll(x);
        Check.due(x, "again 1", 3);
        Play.come(x, "COLLECT 1>3", "COLLECTED 3>1");
        Check.due(x, "leader 1 10", 2);
        Play.come(x, "COLLECT 1>5", "COLLECTED 5>1");
        Check.dues(x, "leader 1 10 = 3", "leader 1 5 = 0");
    }

    /** "it knows these now; [..] STEP 0": leader 1 is STOPPING, SEEDING, PICKING when it hears that keeper 1 is GONE. */
    private static void goingOnEndsEachStep() {
        String[][] before = {
            {},
            {"STOP 1>0", "STOP 1>2", "STOPPED 0>1", "STOPPED 2>1"},
            {"STOP 1>0", "STOP 1>2", "STOPPED 0>1", "STOPPED 2>1", "SEED 1>6", "SEED 1>7", "SEED 1>8", "SEEDED 6>1",
                "SEEDED 7>1", "SEEDED 8>1"}};
        for (int i = 0; i < before.length; i++) {
            Face x = new Real();
            Check.due(x, "reform 1 1 448", 3);
            Play.come(x, before[i]);
            Check.due(x, "leader 1 11", i + 1);
            moveWithoutKeeper0(x);
            Play.come(x, "STOP 1>1", "GONE 1>1");
            Check.dues(x, "leader 1 11 = 0", "leader 1 3 = 1", "leader 1 4 = 56", "leader 1 12 = 448", "again 1 = 0");
            Check.argument(x, "reform 1 1 448");
            Play.loseAll(x);
            Check.due(x, "reform 1 4 448", 3);
            Play.air(x, "STOP 1>3", "STOP 1>4", "STOP 1>5");
            Play.tells(x, "STOP 1>3", 1, 4);
        }
    }
}
