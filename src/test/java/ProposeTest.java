/** Promise 3 (propose), and what comes of it: kinds 5 to 8, TO LEAD with what was voted before. */
public final class ProposeTest {
    public static void main(String[] args) {
        oneValue();
        edges();
        majorityOfFive();
        copiesKeepTheFirst();
        toldOfAnEarlierRound();
        leadingWithVotes();
        greatestRoundsVoteWins();
        gapsGetNoOnesValue();
        notLeading();
        wrongInputs();
        Check.end();
    }

    private static void oneValue() {
        Face x = new Real();
        Check.lead(x, 0, 0, 14);
        Check.dues(x, "propose 0 77 = 0", "leader 0 7 = 1", "leader 0 6 = 0", "slot 0 0 0 = 1", "slot 0 0 1 = 77",
                "count 0 = 3", "message 0 0 = 5", "message 0 1 = 0", "message 0 2 = 1", "message 2 2 = 3",
                "message 0 3 = 0", "message 0 4 = 0", "message 0 5 = 77");
        Check.dues(x, "run 1 = 1", "vote 1 0 false = 0", "vote 1 0 true = 77", "voter 1 0 = 0", "voter 1 2 = 1",
                "agreed 0 = -1", "message 2 0 = 6", "message 2 1 = 1", "message 2 2 = 0", "message 2 3 = 0",
                "message 2 4 = 0", "message 2 5 = 0", "deliver 0 = 5", "agreed 0 = 77", "slot 0 0 2 = 0");
        Check.dues(x, "deliver 1 = 6", "slot 0 0 0 = 1", "slot 0 0 2 = 2", "deliver 1 = 6", "slot 0 0 0 = 2",
                "slot 0 0 2 = 6", "count 0 = 4", "message 1 0 = 7", "message 1 2 = 0", "message 3 2 = 2",
                "message 1 3 = 0", "message 1 4 = 77", "leader 0 9 = 0");
        Check.dues(x, "run 1 = 1", "run 1 = 1", "copy 0 0 = 77", "copy 1 0 = -1", "run 2 = 2", "message 0 0 = 6",
                "message 1 0 = 8", "message 1 1 = 0", "message 1 2 = 0", "message 1 3 = 0", "message 1 4 = 77");
        Check.dues(x, "run 1 = 1", "slot 0 0 2 = 14", "count 0 = 3", "run 1 = 1", "slot 0 0 0 = 2", "slot 0 0 3 = 1",
                "run 1 = 1", "slot 0 0 0 = 3", "slot 0 0 3 = 3", "leader 0 9 = 1", "run 1 = 1", "slot 0 0 3 = 7",
                "run 1 = 0");
    }

    private static void edges() {
        Face x = new Real();
        Check.lead(x, 2, 299, 1);
        for (int slot = 0; slot < 16; slot++) {
            Check.due(x, "propose 2 " + (slot == 3 ? 1 : 1000000 - slot), slot);
        }
        Check.dues(x, "leader 2 7 = 16", "propose 2 1 = -1", "count 0 = 16", "run 2000 = 128", "agreed 15 = 999985",
                "agreed 3 = 1", "agreed 0 = 1000000", "vote 0 0 true = 1000000", "vote 0 15 false = 299",
                "copy 2 15 = 999985", "slot 2 15 0 = 3", "leader 2 9 = 16", "voter 0 2 = 16", "propose 2 1 = -1");
    }

    private static void majorityOfFive() {
        Face x = new Real();
        Check.lead(x, 0, 0, 31);
        Check.dues(x, "propose 0 1 = 0", "run 2 = 2", "deliver 3 = 6", "deliver 3 = 6", "slot 0 0 0 = 1",
                "agreed 0 = -1", "deliver 0 = 5", "agreed 0 = 1", "deliver 2 = 6", "slot 0 0 0 = 2", "slot 0 0 2 = 7");
        Check.lead(x, 1, 1, 3);
        Check.dues(x, "propose 1 5 = 1", "deliver 0 = 5", "deliver 1 = 6", "slot 1 1 0 = 1", "agreed 1 = -1",
                "deliver 0 = 5", "agreed 1 = 5", "deliver 0 = 6", "slot 1 1 0 = 2");
    }

    /** A second TELL finds the value there; TOLD comes again, and notes the same copy once. */
    private static void copiesKeepTheFirst() {
        Face x = new Real();
        Check.lead(x, 0, 0, 1);
        Check.dues(x, "propose 0 8 = 0", "run 2 = 2", "message 0 0 = 7", "twice 0 = 4", "deliver 0 = 7",
                "deliver 2 = 7", "copy 0 0 = 8", "count 3 = 0", "deliver 2 = 8", "deliver 2 = 8", "slot 0 0 3 = 1",
                "slot 0 0 0 = 2");
    }

    /** TOLD of round 0 comes in round 3: while the slot is not CHOSEN there it is nothing, then it is noted. */
    private static void toldOfAnEarlierRound() {
        Face x = new Real();
        Check.lead(x, 0, 0, 1);
        Check.dues(x, "propose 0 8 = 0", "run 5 = 5", "count 0 = 3", "message 0 0 = 8", "twice 0 = 4", "twice 1 = 5",
                "begin 0 3 2 = 8", "deliver 0 = 8", "slot 0 0 3 = 0");
        Check.dues(x, "deliver 4 = 1", "deliver 4 = 1", "deliver 5 = 2", "deliver 5 = 2", "leader 0 0 = 2",
                "message 5 0 = 3", "deliver 5 = 3", "deliver 5 = 4", "leader 0 0 = 3", "slot 0 0 1 = 8",
                "deliver 0 = 8", "slot 0 0 3 = 0", "slot 0 0 0 = 1");
        Check.dues(x, "message 4 0 = 5", "deliver 4 = 5", "deliver 4 = 6", "slot 0 0 0 = 2", "deliver 1 = 8",
                "slot 0 0 3 = 1", "deliver 1 = 8", "slot 0 0 3 = 3", "slot 0 0 0 = 3");
    }

    private static void leadingWithVotes() {
        Face x = new Real();
        Check.lead(x, 0, 0, 7);
        Check.dues(x, "propose 0 5 = 0", "propose 0 6 = 1", "run 100 = 24");
        Check.lead(x, 1, 1, 56);
        Check.dues(x, "leader 1 6 = 2", "leader 1 7 = 2", "leader 1 8 = 0", "slot 1 0 0 = 3", "slot 1 1 1 = 6",
                "vote 3 1 true = 6", "vote 3 1 false = 1", "vote 0 1 false = 0", "propose 1 7 = 2");
        x.run(100);
        Check.lead(x, 2, 2, 7);
        Check.dues(x, "leader 2 5 = 2", "leader 2 6 = 3", "slot 2 2 1 = 7", "vote 0 0 false = 2", "vote 0 2 true = 7",
                "count 3 = 0", "count 4 = 0");
    }

    /** Voter 0 voted 5 in round 0, voter 3 later 9 in round 1: round 2 hears of both and takes 9. */
    private static void greatestRoundsVoteWins() {
        Face x = new Real();
        Check.lead(x, 0, 0, 7);
        Check.dues(x, "propose 0 5 = 0", "run 1 = 1", "lose 0 = 5", "lose 0 = 5", "lose 0 = 6");
        Check.dues(x, "begin 1 1 24 = 3", "run 6 = 6", "message 0 2 = 0", "lose 0 = 3", "run 4 = 4", "leader 1 0 = 3",
                "leader 1 6 = 0", "propose 1 9 = 0", "run 1 = 1", "lose 0 = 5", "lose 0 = 6");
        Check.dues(x, "begin 2 2 32 = 3", "run 6 = 6", "count 0 = 5", "run 5 = 5", "message 0 6 = 1", "run 1 = 1",
                "leader 2 0 = 2", "run 3 = 3", "leader 2 0 = 2", "run 1 = 1", "leader 2 0 = 3", "leader 2 13 = 31",
                "slot 2 0 1 = 9", "message 0 5 = 9");
    }

    private static void gapsGetNoOnesValue() {
        Face x = new Real();
        Check.lead(x, 0, 0, 1);
        Check.dues(x, "propose 0 5 = 0", "propose 0 6 = 1", "propose 0 7 = 2", "lose 0 = 5", "lose 0 = 5", "run 8 = 8");
        Check.lead(x, 1, 1, 2);
        Check.dues(x, "leader 1 6 = 3", "slot 1 0 0 = 3", "slot 1 0 1 = 0", "slot 1 1 1 = 0", "slot 1 2 1 = 7",
                "agreed 0 = 0", "copy 0 0 = 0", "vote 1 0 true = 0", "vote 1 0 false = 1", "propose 1 4 = 3");
    }

    private static void notLeading() {
        Face x = new Real();
        Check.dues(x, "propose 0 1 = -1", "begin 0 0 1 = 3", "propose 0 1 = -1", "run 100 = 6", "propose 0 1 = 0",
                "begin 1 1 1 = 4", "run 6 = 6", "leader 1 0 = 1", "propose 1 2 = -1", "propose 2 1000000 = -1");
    }

    private static void wrongInputs() {
        Face x = new Real();
        Check.lead(x, 0, 0, 1);
        Check.index(x, "propose -1 1", "propose 3 1", "propose 3 0");
        Check.argument(x, "propose 0 0", "propose 0 -1", "propose 0 1000001", "propose 1 0", "propose 0 -2147483648",
                "propose 0 2147483647");
        Check.dues(x, "up 0 0 false = true");
        Check.index(x, "propose 3 0");
        Check.argument(x, "propose 0 0", "propose 0 1000001");
        Check.state(x, "propose 0 1");
        Check.dues(x, "up 0 1 false = true");
        Check.state(x, "propose 1 1");
        Check.dues(x, "up 0 0 true = false", "propose 0 1 = 0");
    }
}
