import java.util.ArrayList;
import java.util.Arrays;
import java.util.List;

/** The document's edges, sentence by sentence: what comes before the promises, and 1 NODES and the AIR. */
public final class EdgeNodesTest {
    private static final int LOW = Integer.MIN_VALUE;
    private static final int HIGH = Integer.MAX_VALUE;

    public static void main(String[] args) {
        lastOfFiveHundredAndTwelveCalls();
        nodesOfEachSort();
        downKeepsWhatItHas();
        roundsAreTheLeaders();
        ballotsAreLikeRounds();
        groups();
        sets();
        majorityToLead();
        majorityToChooseAndAgree();
        majorityToCollect();
        slots();
        values();
        firstGeneration();
        fullAir();
        lowestFirstIntoTheLastPlace();
        takenOutBeforeItComes();
        loadOfLostMessages();
        oldestFirstAroundTheEnd();
        fieldsOfEachKind();
        Check.end();
    }

    /** "An object is used for at most 512 calls after it has been made": the 512th is answered as the others. */
    private static void lastOfFiveHundredAndTwelveCalls() {
        Face x = new Real();
        x.begin(0, 0, 31);
        x.run(2000);
        for (int call = 3; call < 510; call++) {
            x.again(0);
        }
        Check.dues(x, "propose 0 1000000 = 0", "run 2000 = 16", "agreed 0 = 1000000");
        Face y = new Real();
        for (int round = 0; round < 300; round++) {
            y.begin(round % 3, round, 1);
        }
        for (int call = 300; call < 510; call++) {
            y.twice(0);
        }
        Check.dues(y, "count 5 = 300", "count 1 = " + (900 - 400 + 210), "count 0 = 400");
    }

    /** "LEADERS 0 .. 2, KEEPERS 0 .. 8, VOTERS 0 .. 11, COPIES 0 .. 2" */
    private static void nodesOfEachSort() {
        Face x = new Real();
        int[] last = {2, 8, 11, 2};
        for (int sort = 0; sort < 4; sort++) {
            Check.dues(x, "up " + sort + " 0 true = true", "up " + sort + " " + last[sort] + " true = true");
            for (int node : new int[] {-1, last[sort] + 1, LOW, HIGH}) {
                Check.index(x, "up " + sort + " " + node + " true", "up " + sort + " " + node + " false");
            }
        }
        Check.dues(x, "leader 0 0 = 0", "leader 2 0 = 0", "slot 0 0 0 = 0", "slot 2 0 0 = 0", "keeper 0 0 = 2",
                "keeper 8 0 = 0", "voter 0 0 = -1", "voter 11 0 = -1", "vote 0 0 true = -1", "vote 11 0 true = -1",
                "copy 0 0 = -1", "copy 2 0 = -1", "collect 0 = false", "collect 2 = false", "again 0 = 0",
                "again 2 = 0", "propose 0 1 = -1", "propose 2 1 = -1");
        for (int node : new int[] {-1, 3, LOW, HIGH}) {
            Check.index(x, "begin " + node + " 0 1", "propose " + node + " 1", "collect " + node,
                    "reform " + node + " 0 7", "again " + node, "leader " + node + " 0", "slot " + node + " 0 0",
                    "copy " + node + " 0");
        }
        for (int node : new int[] {-1, 9, LOW, HIGH}) {
            Check.index(x, "keeper " + node + " 0", "entry " + node + " 0 true");
        }
        for (int node : new int[] {-1, 12, LOW, HIGH}) {
            Check.index(x, "voter " + node + " 0", "vote " + node + " 0 true");
        }
    }

    /** "each is UP (all at first) or DOWN; one that is DOWN keeps what it has": also what comes to it changes nothing. */
    private static void downKeepsWhatItHas() {
        Face x = new Real();
        Check.lead(x, 0, 0, 3);
        Check.dues(x, "propose 0 5 = 0");
        Play.come(x, "VOTE 0>0", "VOTE 0>1", "VOTED 0>0", "VOTED 1>0", "TELL 0>0");
        Check.dues(x, "begin 1 1 4 = 6");
        Play.come(x, "MATCH 1>0");
        int[] nodes = {3, 9, 12, 3};
        for (int sort = 0; sort < 4; sort++) {
            for (int node = 0; node < nodes[sort]; node++) {
                Check.due(x, "up " + sort + " " + node + " false", true);
            }
        }
        Play.all(x, "leader 0", 3, 0, 3, 0, 7, 0, 0, 1, 0, 0, 0, 0, 0, 0);
        Play.all(x, "slot 0 0", 2, 5, 3, 0);
        Play.all(x, "keeper 0", 2, 0, 0, 2, -1, -1, 0, 0);
        Play.all(x, "voter 1", 0, 0, 1);
        Check.dues(x, "copy 0 0 = 5", "count 0 = 6", "count 1 = 0");
        int came = x.count(2);
        Check.dues(x, "run 2000 = 6", "count 1 = 6", "count 2 = " + came, "count 0 = 0");
        Play.all(x, "leader 0", 3, 0, 3, 0, 7, 0, 0, 1, 0, 0, 0, 0, 0, 0);
        Play.all(x, "slot 0 0", 2, 5, 3, 0);
        Play.all(x, "keeper 1", 2, 0, 0, 1, -1, -1, 0, 0);
        Check.dues(x, "copy 1 0 = -1", "leader 1 0 = 1", "up 0 0 true = false", "again 0 = 3");
    }

    /** "A ROUND is 0 .. 299, and the leader's whose number is the rest of it by 3." */
    private static void roundsAreTheLeaders() {
        Face x = new Real();
        for (int leader = 0; leader < 3; leader++) {
            for (int round = 0; round < 300; round++) {
                x.clear();
                String call = "begin " + leader + " " + round + " 1";
                Check.due(x, call, round % 3 == leader ? "3" : "throws.IllegalArgumentException");
            }
            x.clear();
            for (int round : new int[] {-1, -2, -3, -300, 300, 301, 302, 597, 598, 599, LOW, LOW + 1, LOW + 2, HIGH}) {
                Check.argument(x, "begin " + leader + " " + round + " 1");
            }
        }
    }

    /** "BALLOTS are like rounds." */
    private static void ballotsAreLikeRounds() {
        Face x = new Real();
        for (int leader = 0; leader < 3; leader++) {
            for (int ballot = 0; ballot < 300; ballot++) {
                x.clear();
                String call = "reform " + leader + " " + ballot + " 56";
                Check.due(x, call, ballot % 3 == leader ? "3" : "throws.IllegalArgumentException");
            }
            x.clear();
            for (int ballot : new int[] {-1, -2, -3, -300, 300, 301, 302, 597, 598, 599, LOW, LOW + 1, LOW + 2, HIGH}) {
                Check.argument(x, "reform " + leader + " " + ballot + " 56");
            }
        }
    }

    /** "A GROUP are 1 .. 5 voters [..] as bits (voter [..] k is bit k of a number)": all numbers of 13 bits, and others. */
    private static void groups() {
        Face x = new Real();
        for (int group = 0; group < 1 << 13; group++) {
            x.clear();
            int many = Integer.bitCount(group);
            boolean fine = group < 1 << 12 && many >= 1 && many <= 5;
            Check.due(x, "begin 0 0 " + group, fine ? "3" : "throws.IllegalArgumentException");
        }
        x.clear();
        for (int group : new int[] {-1, LOW, HIGH, LOW + 1, 1 << 30, (1 << 30) + 1, -4096, -4095, 1 << 12, (1 << 12) + 1}) {
            Check.argument(x, "begin 0 0 " + group);
        }
    }

    /** "a SET three keepers, as bits": all numbers of 10 bits, and others. */
    private static void sets() {
        Face x = new Real();
        for (int set = 0; set < 1 << 10; set++) {
            x.clear();
            boolean fine = set < 1 << 9 && Integer.bitCount(set) == 3;
            Check.due(x, "reform 0 0 " + set, fine ? "3" : "throws.IllegalArgumentException");
        }
        x.clear();
        for (int set : new int[] {-1, LOW, HIGH, LOW + 3, (1 << 30) + 3, -512, 7 << 9, 3 + (1 << 9)}) {
            Check.argument(x, "reform 0 0 " + set);
        }
    }

    private static final int[] GROUPS = {1, 3, 7, 15, 31};
    private static final int[] NEEDED = {1, 2, 2, 3, 3};

    /** "A MAJORITY of a group are more than half of its voters": 1 of 1, 2 of 2, 2 of 3, 3 of 4, 3 of 5. */
    private static void majorityToLead() {
        for (int i = 0; i < 5; i++) {
            Face x = new Real();
            Check.dues(x, "begin 0 0 " + GROUPS[i] + " = 3", "run 99 = 6", "begin 1 1 2048 = 3", "run 6 = 6");
            for (int voter = 0; voter < NEEDED[i]; voter++) {
                Check.due(x, "leader 1 0", 2);
                Play.come(x, "ASK 1>" + voter, "ASKED " + voter + ">1");
            }
            Check.due(x, "leader 1 0", 3);
        }
    }

    private static void majorityToChooseAndAgree() {
        for (int i = 0; i < 5; i++) {
            Face x = new Real();
            Check.lead(x, 0, 0, GROUPS[i]);
            Check.due(x, "propose 0 9", 0);
            for (int voter = 0; voter < NEEDED[i]; voter++) {
                Check.due(x, "agreed 0", -1);
                Play.come(x, "VOTE 0>" + voter);
            }
            Check.due(x, "agreed 0", 9);
            for (int voter = 0; voter < NEEDED[i]; voter++) {
                Check.due(x, "slot 0 0 0", 1);
                Play.come(x, "VOTED " + voter + ">0");
            }
            Check.due(x, "slot 0 0 0", 2);
        }
    }

    private static void majorityToCollect() {
        for (int i = 0; i < 5; i++) {
            Face x = new Real();
            Check.lead(x, 0, 0, GROUPS[i]);
            Check.due(x, "collect 0", true);
            for (int voter = 0; voter < NEEDED[i]; voter++) {
                Check.due(x, "leader 0 10", 1);
                Play.come(x, "KNOW 0>" + voter, "KNOWN " + voter + ">0");
            }
            Check.due(x, "leader 0 10", 2);
        }
    }

    /** "SLOTS are 0 .. 15" */
    private static void slots() {
        Face x = new Real();
        Check.lead(x, 0, 0, 1);
        for (int slot = 0; slot < 16; slot++) {
            Check.due(x, "propose 0 " + (slot + 100), slot);
        }
        Check.dues(x, "propose 0 1 = -1", "run 2000 = 128", "slot 0 0 1 = 100", "slot 0 15 1 = 115", "vote 0 0 true = 100",
                "vote 0 15 true = 115", "copy 0 0 = 100", "copy 2 15 = 115", "agreed 0 = 100", "agreed 15 = 115");
        for (int slot : new int[] {-1, 16, LOW, HIGH}) {
            Check.index(x, "slot 0 " + slot + " 0", "vote 0 " + slot + " true", "vote 0 " + slot + " false",
                    "copy 0 " + slot, "agreed " + slot);
        }
    }

    /** "VALUES 1 .. 1000000, and 0 (no one's)": no one can propose 0, but a slot that is filled up has it. */
    private static void values() {
        Face x = new Real();
        Check.lead(x, 0, 0, 1);
        Check.argument(x, "propose 0 0", "propose 0 -1", "propose 0 1000001", "propose 0 " + LOW, "propose 0 " + HIGH);
        Check.dues(x, "propose 0 1 = 0", "propose 0 1000000 = 1");
        Play.come(x, "VOTE 0>0");
        Play.lose(x, "VOTE 0>0", "VOTED 0>0");
        Check.dues(x, "propose 0 1000000 = 2", "run 2 = 2", "vote 0 0 true = 1", "vote 0 2 true = 1000000",
                "vote 0 1 true = -1");
        Play.loseAll(x);
        Check.lead(x, 1, 1, 2);
        Check.dues(x, "slot 1 0 1 = 1", "slot 1 1 1 = 0", "slot 1 2 1 = 1000000", "agreed 1 = 0", "copy 0 1 = 0",
                "vote 1 1 true = 0", "vote 1 2 true = 1000000", "vote 1 2 false = 1", "copy 2 2 = 1000000");
    }

    /**
     * "the one of number 0 are the keepers 0, 1, 2, which are ON, of generation 0, at first; all others are OFF, of no
     * generation (NONE)"
     */
    private static void firstGeneration() {
        Face x = new Real();
        for (int keeper = 0; keeper < 9; keeper++) {
            Check.dues(x, "keeper " + keeper + " 0 = " + (keeper < 3 ? 2 : 0),
                    "keeper " + keeper + " 1 = " + (keeper < 3 ? 0 : -1));
        }
        Check.dues(x, "leader 0 3 = 0", "leader 0 4 = 7", "leader 2 3 = 0", "leader 2 4 = 7");
    }

    /** Leader 0 is MATCHING and so many messages are in the air. */
    private static Face airOf(int many) {
        Face x = new Real();
        x.begin(0, 0, 1);
        while (x.count(0) < many) {
            x.twice(0);
        }
        Check.dues(x, "count 0 = " + many, "count 1 = 0");
        return x;
    }

    /** "400 at most: one that would be more is LOST" */
    private static void fullAir() {
        Face x = airOf(399);
        Check.dues(x, "twice 1 = 400", "count 1 = 0", "message 399 2 = 1", "twice 2 = 400", "count 1 = 1",
                "message 399 2 = 1");
        Check.index(x, "message 400 0", "deliver 400", "lose 400", "twice 400");
        Check.dues(x, "again 0 = 3", "count 0 = 400", "count 1 = 4", "begin 1 1 1 = 400", "count 1 = 7",
                "reform 2 2 56 = 400", "count 1 = 10", "message 399 0 = 1");
        Check.dues(x, "lose 5 = 1", "count 0 = 399", "count 1 = 10", "reform 2 5 56 = 400", "count 1 = 12",
                "message 399 0 = 16");
    }

    /** "SENDING to several nodes sends to each, by number, lowest first": so the lowest gets the last place. */
    private static void lowestFirstIntoTheLastPlace() {
        Face x = airOf(399);
        Check.dues(x, "begin 1 1 1 = 400", "count 1 = 2", "message 399 1 = 1", "message 399 2 = 0");
        Face y = airOf(398);
        Check.dues(y, "reform 2 2 56 = 400", "count 1 = 1", "message 398 2 = 0", "message 399 2 = 1");
        Face z = new Real();
        Check.dues(z, "begin 0 0 2321 = 3", "run 99 = 6", "propose 0 4 = 0");
        Play.air(z, "VOTE 0>0", "VOTE 0>4", "VOTE 0>8", "VOTE 0>11");
    }

    /** "The k-th message of the air [..] is taken out of it, and comes": so there is room for one answer. */
    private static void takenOutBeforeItComes() {
        Face x = airOf(400);
        Check.dues(x, "deliver 0 = 1", "count 0 = 400", "count 1 = 0", "message 399 0 = 2", "deliver 399 = 2",
                "count 0 = 399", "run 1 = 1", "count 0 = 399", "count 1 = 0");
        Face y = new Real();
        Check.lead(y, 0, 0, 1);
        y.propose(0, 8);
        Play.come(y, "VOTE 0>0");
        while (y.count(0) < 400) {
            y.twice(0);
        }
        Check.dues(y, "deliver 7 = 6", "slot 0 0 0 = 2", "count 0 = 400", "count 1 = 2", "message 399 0 = 7",
                "message 399 2 = 0", "again 0 = 3", "count 1 = 5", "lose 0 = 6", "lose 0 = 6", "again 0 = 3",
                "count 0 = 400", "count 1 = 6");
        Play.tells(y, "TELL 0>1", 0, 8, 0, 0);
    }

    /** A message that is LOST is lost with its entries, its votes and its PICK: no other is changed by it. */
    private static void loadOfLostMessages() {
        Face x = new Real();
        Check.lead(x, 0, 0, 1);
        Check.dues(x, "propose 0 8 = 0", "run 99 = 8", "begin 1 1 2 = 3", "run 7 = 7", "message 0 0 = 4",
                "message 0 6 = 1", "reform 0 0 56 = 4");
        Play.come(x, "STOP 0>0", "STOP 0>1");
        while (x.count(0) < 400) {
            x.twice(1);
        }
        Play.come(x, "STOPPED 0>0", "STOPPED 1>0");
        Check.dues(x, "leader 0 11 = 2", "count 0 = 400", "count 1 = 1");
        Play.fullBehind(x, "SEED 0>3", "SEED 0>4");
        int[] before = State.ofNodes(x);
        int k = Play.place(x, "ASKED 0>1");
        Check.dues(x, "twice " + k + " = 400", "twice 399 = 400", "again 0 = 3", "count 1 = 6", "message " + k + " 6 = 1",
                "message 399 6 = 2", "message 398 6 = 2");
        before[0] = 6;
        Check.that("LOST messages change no node", Arrays.equals(before, State.ofNodes(x)));
        Play.come(x, "ASKED 0>1", "SEED 0>4");
        Check.dues(x, "leader 1 0 = 3", "slot 1 0 1 = 8", "entry 4 0 false = 0", "entry 4 1 false = 1", "keeper 4 3 = 2");
    }

    /** "messages, the oldest first": however often the row of places has gone round, and wherever one is taken out. */
    private static void oldestFirstAroundTheEnd() {
        Face x = new Real();
        Check.lead(x, 0, 0, 1);
        for (int slot = 0; slot < 16; slot++) {
            x.propose(0, slot + 1);
        }
        List<Integer> due = new ArrayList<>();
        for (int slot = 0; slot < 16; slot++) {
            due.add(slot);
        }
        for (int step = 0; step < 3000; step++) {
            int at = step * 7 % due.size();
            x.twice(at);
            due.add(due.get(at));
            if (step % 3 == 0 || due.size() == 400) {
                int out = step * 11 % due.size();
                x.lose(out);
                due.remove(out);
            }
        }
        Check.due(x, "count 0", due.size());
        boolean same = true;
        for (int k = 0; k < due.size(); k++) {
            same &= x.message(k, 4) == due.get(k) && x.message(k, 5) == due.get(k) + 1;
        }
        Check.that("the messages are in their order", same);
        Check.dues(x, "count 1 = 0");
    }

    /** "what is told with it (in brackets; in this order fields 0, 1, 2)", and 0 where it has not so many. */
    private static void fieldsOfEachKind() {
        Face x = new Real();
        Check.dues(x, "begin 1 1 9 = 3");
        Play.tells(x, "MATCH 1>0", 0, 1, 9, 0, 0, 0);
        x.run(3);
        Play.tells(x, "MATCHED 2>1", 0, 1, 0, 0, 0, 0);
        Check.dues(x, "run 9 = 3", "propose 1 7 = 0");
        Play.tells(x, "VOTE 1>3", 1, 0, 7, 0, 0, 0);
        x.run(2);
        Play.tells(x, "VOTED 3>1", 1, 0, 0, 0, 0, 0);
        x.run(2);
        Play.tells(x, "TELL 1>2", 0, 7, 0, 0, 0, 0);
        x.run(3);
        Play.tells(x, "TOLD 2>1", 0, 7, 0, 0, 0, 0);
        Check.dues(x, "run 9 = 3", "begin 2 5 6 = 3", "run 6 = 6");
        Play.tells(x, "ASK 2>3", 5, 0, 0, 0, 0, 0);
        x.run(2);
        Play.tells(x, "ASKED 3>2", 5, 0, 0, 1, 0, 0);
        Check.dues(x, "run 99 = 12", "collect 2 = true");
        Play.tells(x, "KNOW 2>2", 5, 1, 0, 0, 0, 0);
        x.run(2);
        Play.tells(x, "KNOWN 2>2", 5, 1, 0, 0, 0, 0);
        x.run(2);
        Play.tells(x, "COLLECT 2>2", 0, 5, 0, 0, 0, 0);
        x.run(3);
        Play.tells(x, "COLLECTED 2>2", 0, 5, 0, 0, 0, 0);
        x.run(3);
        Play.tells(x, "RELEASE 2>3", 5, 0, 0, 0, 0, 0);
        x.run(2);
        Play.tells(x, "RELEASED 3>2", 5, 0, 0, 0, 0, 0);
        Check.dues(x, "run 9 = 2", "begin 1 4 9 = 3", "run 3 = 3");
        Play.tells(x, "NO 2>1", 4, 5, 0, 0, 0, 0);
        x.run(3);
        fieldsOfOtherKeepers(x);
        refusedFields();
    }

    private static void fieldsOfOtherKeepers(Face x) {
        Check.dues(x, "reform 0 3 56 = 3");
        Play.tells(x, "STOP 0>2", 0, 3, 0, 0, 0, 0);
        x.run(3);
        Play.tells(x, "STOPPED 2>0", 0, 3, 5, 1, -1, 0);
        x.run(3);
        Play.tells(x, "SEED 0>5", 1, 56, 5, 1, 0, 0);
        x.run(3);
        Play.tells(x, "SEEDED 5>0", 1, 0, 0, 0, 0, 0);
        x.run(3);
        Play.tells(x, "PICK 0>2", 0, 3, 56, 0, 0, 0);
        x.run(1);
        Play.tells(x, "PICKED 0>0", 0, 3, 0, 0, 0, 0);
        Check.dues(x, "reform 1 4 448 = 6");
        Play.come(x, "STOP 1>0");
        Play.tells(x, "STOPPED 0>1", 0, 4, 5, 1, 3, 56);
        Play.come(x, "PICK 0>1", "PICKED 1>0", "PICKED 0>0");
        Play.tells(x, "MOVED 0>5", 0, 56, 0, 0, 0, 0);
        Play.come(x, "MOVED 0>1", "STOP 1>1");
        Play.tells(x, "GONE 1>1", 1, 56, 0, 0, 0, 0);
    }

    private static void refusedFields() {
        Face x = new Real();
        Check.lead(x, 0, 0, 1);
        Check.lead(x, 1, 4, 1);
        Check.dues(x, "propose 0 7 = 0", "collect 0 = true", "run 2 = 2");
        Play.tells(x, "REFUSED 0>0", 0, 4, 0, 0, 0, 0);
        Play.lose(x, "REFUSED 0>0");
        Play.tells(x, "REFUSED 0>0", 0, 4, 0, 0, 0, 0);
    }
}
