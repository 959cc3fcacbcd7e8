import java.util.Arrays;

/** The document's edges, sentence by sentence: 5 AGAIN. */
public final class EdgeAgainTest {
    public static void main(String[] args) {
        nothingAtFirst();
        idle();
        idleInEachStage();
        matching();
        asking();
        proposed();
        chosen();
        stored();
        settled();
        stageOne();
        stageTwo();
        stageThree();
        steps();
        stepsInEachPhase();
        order();
        fullAir();
        Check.end();
    }

    /** It sends just these, behind nothing else, answers how many, and changes no node. */
    private static void again(Face x, int leader, String... due) {
        Play.loseAll(x);
        int[] before = State.ofNodes(x);
        Check.due(x, "again " + leader, due.length);
        Play.air(x, due);
        Check.that("again changes no node", Arrays.equals(before, State.ofNodes(x)));
    }

    private static void nothingAtFirst() {
        Face x = new Real();
        for (int leader = 0; leader < 3; leader++) {
            again(x, leader);
        }
    }

    /** "IDLE: nothing of 2 and 3": it was MATCHING, ASKING, LEADING before; its STEP goes on. */
    private static void idle() {
        Face x = new Real();
        Check.lead(x, 2, 2, 1);
        Check.dues(x, "begin 0 0 1 = 3", "reform 0 0 56 = 6");
        Play.come(x, "MATCH 0>0", "NO 0>0");
        Check.due(x, "leader 0 0", 0);
        again(x, 0, "STOP 0>0", "STOP 0>1", "STOP 0>2");
        Face y = new Real();
        Check.lead(y, 0, 0, 1);
        Check.due(y, "begin 1 1 2", 3);
        Play.come(y, "MATCH 1>0", "MATCH 1>1", "MATCHED 0>1", "MATCHED 1>1");
        Check.due(y, "begin 2 2 4", 5);
        Play.come(y, "MATCH 2>0", "MATCH 2>1", "MATCHED 0>2", "MATCHED 1>2", "ASK 2>0", "ASK 1>0", "REFUSED 0>1");
        Check.due(y, "leader 1 0", 0);
        again(y, 1);
    }

    /** The same in STAGE 1, 2 and 3, with slots that are PROPOSED and CHOSEN. */
    private static void idleInEachStage() {
        String[][] before = {
            {},
            {"KNOW 1>1", "KNOWN 1>1"},
            {"KNOW 1>1", "KNOWN 1>1", "COLLECT 1>0", "COLLECT 1>1", "COLLECTED 0>1", "COLLECTED 1>1"}};
        for (int i = 0; i < before.length; i++) {
            Face x = new Real();
            Check.lead(x, 0, 0, 1);
            Check.lead(x, 1, 1, 2);
            Check.dues(x, "propose 1 7 = 0", "propose 1 8 = 1");
            Play.come(x, "VOTE 1>1", "VOTED 1>1");
            Check.dues(x, "slot 1 0 0 = 2", "slot 1 1 0 = 1", "collect 1 = true");
            Play.come(x, before[i]);
            Check.dues(x, "leader 1 10 = " + (i + 1), "begin 2 2 1024 = " + (x.count(0) + 3));
            Play.come(x, "MATCH 2>0", "MATCH 2>1", "MATCHED 0>2", "MATCHED 1>2", "ASK 2>1", "VOTE 1>1", "REFUSED 1>1");
            Check.dues(x, "leader 1 0 = 0", "leader 1 10 = " + (i + 1));
            again(x, 1);
        }
    }

    /** "MATCHING: MATCH to those of its set that are not noted." */
    private static void matching() {
        Face x = new Real();
        Check.due(x, "begin 1 4 9", 3);
        again(x, 1, "MATCH 1>0", "MATCH 1>1", "MATCH 1>2");
        Play.tells(x, "MATCH 1>2", 0, 4, 9, 0);
        Play.come(x, "MATCH 1>1", "MATCHED 1>1");
        again(x, 1, "MATCH 1>0", "MATCH 1>2");
    }

    /** "ASKING: ASK to those voters that are not noted." */
    private static void asking() {
        Face x = new Real();
        Check.lead(x, 0, 0, 31);
        Check.dues(x, "begin 1 1 2048 = 3", "run 6 = 6");
        again(x, 1, "ASK 1>0", "ASK 1>1", "ASK 1>2", "ASK 1>3", "ASK 1>4");
        Play.come(x, "ASK 1>3", "ASKED 3>1", "ASK 1>0", "ASKED 0>1");
        again(x, 1, "ASK 1>1", "ASK 1>2", "ASK 1>4");
        Play.tells(x, "ASK 1>4", 1, 0, 0, 0);
        Play.come(x, "ASK 1>4", "ASKED 4>1");
        again(x, 1);
    }

    /** "of each that is PROPOSED and not CHOSEN: VOTE to those of its group that are not noted for it": for it alone. */
    private static void proposed() {
        Face x = new Real();
        Check.lead(x, 0, 0, 2081);
        Check.dues(x, "propose 0 7 = 0", "propose 0 8 = 1");
        Play.come(x, "VOTE 0>5", "VOTED 5>0");
        again(x, 0, "VOTE 0>0", "VOTE 0>11", "VOTE 0>0", "VOTE 0>5", "VOTE 0>11");
        Check.dues(x, "message 1 4 = 0", "message 1 5 = 7", "message 2 4 = 1", "message 2 5 = 8", "message 2 3 = 0");
        Play.come(x, "VOTE 0>0", "VOTED 0>0");
        again(x, 0, "TELL 0>0", "TELL 0>1", "TELL 0>2", "VOTE 0>0", "VOTE 0>5", "VOTE 0>11");
    }

    /** "CHOSEN, and not STORED: TELL to those copies that are not noted": and no VOTE, though a voter is not noted. */
    private static void chosen() {
        Face x = new Real();
        Check.lead(x, 2, 2, 7);
        Check.due(x, "propose 2 7", 0);
        Play.come(x, "VOTE 2>0", "VOTE 2>1", "VOTED 0>2", "VOTED 1>2");
        again(x, 2, "TELL 2>0", "TELL 2>1", "TELL 2>2");
        Play.tells(x, "TELL 2>2", 0, 7, 0, 0);
        Play.come(x, "TELL 2>1", "TOLD 1>2");
        again(x, 2, "TELL 2>0", "TELL 2>2");
    }

    /** With two copies noted it is STORED, so nothing is sent to the third, nor to a voter that is not noted. */
    private static void stored() {
        Face x = new Real();
        Check.lead(x, 0, 0, 7);
        Check.due(x, "propose 0 7", 0);
        Play.come(x, "VOTE 0>0", "VOTE 0>1", "VOTED 0>0", "VOTED 1>0", "TELL 0>1", "TOLD 1>0", "TELL 0>2", "TOLD 2>0");
        Check.dues(x, "slot 0 0 0 = 3", "slot 0 0 2 = 3", "slot 0 0 3 = 6");
        again(x, 0);
    }

    private static void settled() {
        Face x = new Real();
        Check.lead(x, 0, 0, 1);
        Check.dues(x, "propose 0 7 = 0", "run 99 = 8", "collect 0 = true", "run 99 = 8");
        Check.lead(x, 1, 1, 2);
        Check.due(x, "slot 1 0 0", 4);
        again(x, 1);
    }

    /** Round 0 had the voters 0, 1, 2; leader 1 LEADS round 1 with the voters 3, 4, 5, and collects. */
    private static Face collecting() {
        Face x = new Real();
        Check.lead(x, 0, 0, 7);
        Check.lead(x, 1, 1, 56);
        Check.dues(x, "propose 1 9 = 0", "run 99 = 12", "collect 1 = true");
        return x;
    }

    /** "STAGE 1: KNOW (with its number) to those of its group [..] that are not noted" */
    private static void stageOne() {
        Face x = collecting();
        again(x, 1, "KNOW 1>3", "KNOW 1>4", "KNOW 1>5");
        Play.tells(x, "KNOW 1>5", 1, 1, 0, 0);
        Play.come(x, "KNOW 1>4", "KNOWN 4>1");
        again(x, 1, "KNOW 1>3", "KNOW 1>5");
        Check.dues(x, "propose 1 8 = 1", "run 99 = 28", "leader 1 9 = 2", "collect 1 = true");
        again(x, 1, "KNOW 1>3", "KNOW 1>4", "KNOW 1>5");
        Play.tells(x, "KNOW 1>5", 1, 2, 0, 0);
    }

    /** "STAGE 2: COLLECT to those of its set [..] that are not noted" */
    private static void stageTwo() {
        Face x = collecting();
        Play.come(x, "KNOW 1>3", "KNOW 1>4", "KNOWN 3>1", "KNOWN 4>1");
        again(x, 1, "COLLECT 1>0", "COLLECT 1>1", "COLLECT 1>2");
        Play.tells(x, "COLLECT 1>2", 0, 1, 0, 0);
        Play.come(x, "COLLECT 1>1", "COLLECTED 1>1");
        again(x, 1, "COLLECT 1>0", "COLLECT 1>2");
    }

    /** "STAGE 3: RELEASE to those voters to whom it went before, that are not noted" */
    private static void stageThree() {
        Face x = collecting();
        x.run(12);
        Check.dues(x, "leader 1 10 = 3", "leader 1 5 = 0");
        again(x, 1, "RELEASE 1>0", "RELEASE 1>1", "RELEASE 1>2");
        Play.tells(x, "RELEASE 1>2", 1, 0, 0, 0);
        Play.come(x, "RELEASE 1>1", "RELEASED 1>1");
        again(x, 1, "RELEASE 1>0", "RELEASE 1>2");
        Play.come(x, "RELEASE 1>0", "RELEASED 0>1", "RELEASE 1>2", "RELEASED 2>1");
        again(x, 1);
        Check.dues(x, "collect 1 = true", "run 99 = 12", "leader 1 10 = 3");
        again(x, 1);
    }

    /** "STEP 1: STOP, 3: PICK to those of its set, 2: SEED to those of the set WANTED that are not noted." */
    private static void steps() {
        Face x = new Real();
        Check.dues(x, "begin 1 1 1 = 3", "run 99 = 6", "reform 2 5 292 = 3");
        again(x, 2, "STOP 2>0", "STOP 2>1", "STOP 2>2");
        Play.tells(x, "STOP 2>2", 0, 5, 0, 0);
        Play.come(x, "STOP 2>1", "STOPPED 1>2");
        again(x, 2, "STOP 2>0", "STOP 2>2");
        Check.due(x, "reform 2 8 56", 5);
        Play.loseAll(x);
        Check.due(x, "again 2", 3);
        Play.come(x, "STOP 2>0", "STOPPED 0>2", "STOP 2>1", "STOPPED 1>2");
        again(x, 2, "SEED 2>3", "SEED 2>4", "SEED 2>5");
        Play.tells(x, "SEED 2>5", 1, 56, 0, 1, 0, 0);
        Play.come(x, "SEED 2>4", "SEEDED 4>2");
        again(x, 2, "SEED 2>3", "SEED 2>5");
        Play.come(x, "SEED 2>3", "SEEDED 3>2", "SEED 2>5", "SEEDED 5>2");
        again(x, 2, "PICK 2>0", "PICK 2>1", "PICK 2>2");
        Play.tells(x, "PICK 2>2", 0, 8, 56, 0);
        Play.come(x, "PICK 2>1", "PICKED 1>2");
        again(x, 2, "PICK 2>0", "PICK 2>2");
        Play.come(x, "PICK 2>0", "PICKED 0>2");
        Check.due(x, "leader 2 11", 0);
        again(x, 2);
    }

    /** "Then, in each phase": MATCHING, ASKING, LEADING and IDLE. */
    private static void stepsInEachPhase() {
        Face x = new Real();
        Check.lead(x, 0, 0, 1);
        Check.due(x, "reform 1 1 56", 3);
        again(x, 1, "STOP 1>0", "STOP 1>1", "STOP 1>2");
        Check.due(x, "begin 1 1 2", 6);
        again(x, 1, "MATCH 1>0", "MATCH 1>1", "MATCH 1>2", "STOP 1>0", "STOP 1>1", "STOP 1>2");
        Play.come(x, "MATCH 1>0", "MATCH 1>1", "MATCHED 0>1", "MATCHED 1>1");
        again(x, 1, "ASK 1>0", "STOP 1>0", "STOP 1>1", "STOP 1>2");
        Play.come(x, "ASK 1>0", "ASKED 0>1");
        again(x, 1, "STOP 1>0", "STOP 1>1", "STOP 1>2");
    }

    /** "by slots [..] then, STAGE [..] Then, in each phase: STEP" */
    private static void order() {
        Face x = new Real();
        Check.lead(x, 0, 0, 1);
        Check.dues(x, "reform 0 0 448 = 3", "propose 0 5 = 0", "propose 0 6 = 1", "propose 0 7 = 2", "propose 0 8 = 3");
        Play.lose(x, "VOTE 0>0");
        Play.come(x, "VOTE 0>0", "VOTED 0>0");
        Play.lose(x, "VOTE 0>0");
        Play.come(x, "VOTE 0>0", "VOTED 0>0");
        Check.due(x, "collect 0", true);
        again(x, 0, "VOTE 0>0", "TELL 0>0", "TELL 0>1", "TELL 0>2", "VOTE 0>0", "TELL 0>0", "TELL 0>1", "TELL 0>2",
                "KNOW 0>0", "STOP 0>0", "STOP 0>1", "STOP 0>2");
        Check.dues(x, "message 0 4 = 0", "message 1 3 = 1", "message 4 4 = 2", "message 5 3 = 3");
    }

    /** Promise 6: "how many messages it sent (also those LOST)" */
    private static void fullAir() {
        Face x = new Real();
        x.begin(0, 0, 1);
        while (x.count(0) < 398) {
            x.twice(0);
        }
        Check.dues(x, "again 0 = 3", "count 0 = 400", "count 1 = 1", "message 398 2 = 0", "message 399 2 = 1", "again 0 = 3",
                "count 0 = 400", "count 1 = 4", "message 399 2 = 1");
    }
}
