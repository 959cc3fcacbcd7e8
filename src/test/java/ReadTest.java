import java.util.Arrays;

/** Promises 13 to 21: what is read of leaders, slots, keepers, entries, voters, votes, copies, and the counts. */
public final class ReadTest {
    public static void main(String[] args) {
        leader();
        slot();
        keeperAndEntry();
        voterAndVote();
        copyAgreedCount();
        agreedByAllWhoEverVoted();
        readingChangesNothing();
        wrongInputs();
        Check.end();
    }

    private static void all(Face x, String call, int... due) {
        for (int what = 0; what < due.length; what++) {
            Check.due(x, call + " " + what, due[what]);
        }
    }

    private static Face twoSlots() {
        Face x = new Real();
        x.begin(0, 0, 7);
        x.run(99);
        x.propose(0, 5);
        x.propose(0, 6);
        x.run(99);
        return x;
    }

    private static void leader() {
        Face x = twoSlots();
        all(x, "leader 0", 3, 0, 7, 0, 7, 0, 0, 2, 0, 2, 0, 0, 0, 0);
        Check.dues(x, "begin 1 1 56 = 3", "run 4 = 4");
        all(x, "leader 1", 1, 1, 56, 0, 7, 1, 0, 0, 0, 0, 0, 0, 0, 0);
        Check.dues(x, "run 5 = 5");
        all(x, "leader 1", 2, 1, 56, 0, 7, 1, 0, 0, 0, 0, 0, 0, 0, 0);
        Check.dues(x, "run 1 = 1");
        all(x, "leader 1", 2, 1, 56, 0, 7, 1, 0, 0, 0, 0, 0, 0, 0, 1);
        x.run(99);
        all(x, "leader 1", 3, 1, 56, 0, 7, 1, 2, 2, 0, 2, 0, 0, 0, 3);
        Check.dues(x, "propose 1 7 = 2", "collect 1 = true", "run 99 = 30");
        all(x, "leader 1", 3, 1, 56, 0, 7, 0, 2, 3, 0, 3, 3, 0, 0, 7);
        Check.dues(x, "reform 1 1 56 = 3");
        all(x, "leader 1", 3, 1, 56, 0, 7, 0, 2, 3, 0, 3, 3, 1, 56, 7);
        x.run(99);
        all(x, "leader 1", 3, 1, 56, 1, 56, 0, 2, 3, 0, 3, 3, 0, 56, 7);
        Check.dues(x, "begin 2 2 1 = 3", "run 99 = 6", "again 2 = 3", "run 99 = 20");
        all(x, "leader 2", 3, 2, 1, 1, 56, 1, 3, 3, 2, 3, 0, 0, 0, 24);
        Check.dues(x, "propose 1 8 = 3", "run 4 = 4", "leader 1 0 = 0");
        all(x, "leader 1", 0, 1, 56, 1, 56, 0, 0, 0, 0, 0, 3, 0, 56, 7);
    }

    private static void slot() {
        Face x = twoSlots();
        all(x, "slot 0 1", 3, 6, 7, 7);
        all(x, "slot 0 2", 0, -1, 0, 0);
        all(x, "slot 0 15", 0, -1, 0, 0);
        Check.dues(x, "propose 0 1000000 = 2");
        all(x, "slot 0 2", 1, 1000000, 0, 0);
        Check.dues(x, "run 4 = 4");
        all(x, "slot 0 2", 1, 1000000, 1, 0);
        Check.dues(x, "run 1 = 1");
        all(x, "slot 0 2", 2, 1000000, 3, 0);
        x.run(99);
        Check.dues(x, "begin 1 1 8 = 3", "run 99 = 36");
        all(x, "slot 1 2", 3, 1000000, 8, 7);
        Check.dues(x, "propose 0 9 = 3", "run 99 = 6", "leader 0 0 = 0");
        all(x, "slot 0 1", 0, 6, 7, 7);
        all(x, "slot 0 3", 0, 9, 0, 0);
        Check.dues(x, "collect 1 = true", "run 99 = 14", "begin 2 2 16 = 3", "run 99 = 8");
        all(x, "slot 2 2", 4, -1, 0, 0);
        Check.dues(x, "begin 2 5 16 = 3");
        all(x, "slot 2 2", 0, -1, 0, 0);
    }

    private static void keeperAndEntry() {
        Face x = new Real();
        Check.dues(x, "begin 2 5 2048 = 3", "run 99 = 6", "begin 0 63 6 = 3", "run 99 = 8", "begin 1 64 31 = 3",
                "run 99 = 12", "begin 2 299 1 = 3", "run 99 = 18");
        all(x, "keeper 1", 2, 0, 0, 4, -1, -1, 0, 0);
        Check.dues(x, "entry 1 0 false = 5", "entry 1 0 true = 2048", "entry 1 1 false = 63", "entry 1 1 true = 6",
                "entry 1 2 false = 64", "entry 1 2 true = 31", "entry 1 3 false = 299", "entry 1 3 true = 1");
        Check.index(x, "entry 1 4 false", "entry 1 -1 true", "entry 3 0 false", "entry 9 0 true", "entry -1 0 true",
                "entry 1 2147483647 false", "entry 1 -2147483648 false");
        Check.dues(x, "collect 2 = true", "run 8 = 8");
        all(x, "keeper 1", 2, 0, 299, 1, -1, -1, 0, 0);
        Check.dues(x, "entry 1 0 false = 299", "entry 1 0 true = 1");
        Check.index(x, "entry 1 1 false");
        x.run(99);
        Check.dues(x, "reform 2 8 448 = 3", "run 15 = 15");
        all(x, "keeper 0", 3, 0, 299, 1, 8, 8, 448, 0);
        all(x, "keeper 6", 1, 1, 299, 1, -1, -1, 0, 0);
        x.run(99);
        all(x, "keeper 0", 3, 0, 299, 1, 8, 8, 448, 448);
        all(x, "keeper 6", 2, 1, 299, 1, -1, -1, 0, 0);
        all(x, "keeper 5", 0, -1, 0, 0, -1, -1, 0, 0);
        Check.dues(x, "entry 8 0 true = 1", "entry 0 0 false = 299");
    }

    private static void voterAndVote() {
        Face x = twoSlots();
        all(x, "voter 0", 0, 0, 2);
        Check.dues(x, "vote 0 0 false = 0", "vote 0 0 true = 5", "vote 0 1 true = 6", "vote 0 2 false = -1",
                "vote 0 2 true = -1", "vote 3 0 true = -1");
        Check.dues(x, "begin 2 299 3072 = 3", "run 99 = 32", "collect 2 = true", "run 6 = 6");
        all(x, "voter 0", 299, 0, 2);
        all(x, "voter 11", 299, 2, 2);
        Check.dues(x, "vote 11 1 false = 299", "vote 11 1 true = 6");
        x.run(99);
        all(x, "voter 0", 299, 0, 0);
        Check.dues(x, "vote 0 0 false = -1", "vote 0 0 true = -1");
    }

    private static void copyAgreedCount() {
        Face x = twoSlots();
        all(x, "count", 0, 0, 30, 0, 0, 1);
        Check.dues(x, "copy 0 0 = 5", "copy 2 1 = 6", "copy 2 2 = -1", "agreed 0 = 5", "agreed 1 = 6", "agreed 2 = -1",
                "agreed 15 = -1");
        Check.dues(x, "up 3 2 false = true", "propose 0 7 = 2", "run 99 = 11", "copy 2 2 = -1", "copy 1 2 = 7",
                "slot 0 2 3 = 3", "slot 0 2 0 = 3", "agreed 2 = 7");
        all(x, "count", 0, 1, 40, 0, 0, 1);
        Check.dues(x, "begin 1 1 1 = 3", "begin 1 4 1 = 6");
        all(x, "count", 6, 1, 40, 0, 0, 3);
    }

    /** Votes that were given away since count: voter 0 votes in round 0, is asked by round 1, then voter 1 votes. */
    private static void agreedByAllWhoEverVoted() {
        Face x = new Real();
        Check.dues(x, "begin 0 0 7 = 3", "run 99 = 6", "propose 0 5 = 0", "deliver 0 = 5", "agreed 0 = -1");
        Check.dues(x, "begin 1 1 1 = 6", "deliver 3 = 1", "deliver 3 = 1", "deliver 4 = 2", "deliver 4 = 2",
                "leader 1 0 = 2", "message 4 0 = 3", "message 4 2 = 0", "deliver 4 = 3", "message 6 0 = 4",
                "message 5 2 = 2", "deliver 5 = 3", "deliver 5 = 4", "deliver 5 = 4", "leader 1 0 = 3",
                "slot 1 0 1 = 5");
        Check.dues(x, "message 5 0 = 5", "deliver 5 = 5", "agreed 0 = 5", "vote 0 0 false = 1", "message 0 2 = 1",
                "deliver 0 = 5", "vote 1 0 false = 0", "agreed 0 = 5", "count 4 = 0");
        Face y = new Real();
        Check.dues(y, "begin 0 0 7 = 3", "run 99 = 6", "propose 0 5 = 0", "twice 0 = 4", "deliver 0 = 5", "deliver 2 = 5",
                "agreed 0 = -1", "deliver 0 = 5", "agreed 0 = 5");
    }

    private static void readingChangesNothing() {
        Face x = twoSlots();
        x.begin(1, 1, 9);
        x.reform(2, 2, 56);
        x.run(7);
        int[] before = State.of(x);
        Check.that("reading changes nothing", Arrays.equals(before, State.of(x)));
    }

    private static void wrongInputs() {
        Face x = twoSlots();
        Check.index(x, "leader -1 0", "leader 3 0", "leader 0 -1", "leader 0 14", "leader 0 2147483647",
                "leader -2147483648 0");
        Check.index(x, "slot -1 0 0", "slot 3 0 0", "slot 0 -1 0", "slot 0 16 0", "slot 0 0 -1", "slot 0 0 4");
        Check.index(x, "keeper -1 0", "keeper 9 0", "keeper 0 -1", "keeper 0 8");
        Check.index(x, "entry 0 1 false", "entry 0 -1 false", "entry 9 0 false", "entry -1 0 false");
        Check.index(x, "voter -1 0", "voter 12 0", "voter 0 -1", "voter 0 3");
        Check.index(x, "vote -1 0 true", "vote 12 0 true", "vote 0 -1 false", "vote 0 16 false");
        Check.index(x, "copy -1 0", "copy 3 0", "copy 0 -1", "copy 0 16");
        Check.index(x, "agreed -1", "agreed 16", "agreed 2147483647", "count -1", "count 6", "count -2147483648");
    }
}
