/** Promise 2 (begin), and what comes of it: kinds 1 to 4, 15 and 24. */
public final class BeginTest {
    public static void main(String[] args) {
        firstRound();
        edges();
        secondRoundAsks();
        groupsOfHistoryNeedMajorities();
        keeperSaysNo();
        twelveEntries();
        voterRefuses();
        voterRefusesAsk();
        beginForgets();
        strangeAnswersAreNothing();
        wrongInputs();
        Check.end();
    }

    private static void firstRound() {
        Face x = new Real();
        Check.dues(x, "begin 1 4 33 = 3", "leader 1 0 = 1", "leader 1 1 = 4", "leader 1 2 = 33", "count 5 = 1");
        for (int k = 0; k < 3; k++) {
            Check.dues(x, "message " + k + " 0 = 1", "message " + k + " 1 = 1", "message " + k + " 2 = " + k,
                    "message " + k + " 3 = 0", "message " + k + " 4 = 4", "message " + k + " 5 = 33");
        }
        Check.dues(x, "deliver 2 = 1", "keeper 2 3 = 1", "entry 2 0 false = 4", "entry 2 0 true = 33",
                "keeper 0 3 = 0", "message 2 0 = 2", "message 2 1 = 2", "message 2 2 = 1", "message 2 3 = 0",
                "message 2 4 = 4", "message 2 5 = 0", "message 2 6 = 0");
        Check.dues(x, "deliver 2 = 2", "leader 1 0 = 1", "deliver 0 = 1", "deliver 1 = 2", "leader 1 0 = 3",
                "leader 1 5 = 0", "leader 1 6 = 0", "leader 1 7 = 0", "leader 1 13 = 0", "count 0 = 1");
        Check.dues(x, "run 10 = 2", "leader 1 0 = 3", "keeper 1 3 = 1");
    }

    private static void edges() {
        Face x = new Real();
        Check.dues(x, "begin 0 0 1 = 3", "begin 2 299 31 = 6", "begin 1 298 3968 = 9", "begin 0 297 2048 = 12");
        Check.dues(x, "leader 2 1 = 299", "leader 1 2 = 3968", "count 5 = 4", "run 100 = 26");
        Check.dues(x, "keeper 0 3 = 2", "entry 0 1 false = 299", "entry 0 1 true = 31", "leader 2 0 = 3",
                "leader 1 0 = 0", "leader 0 0 = 0");
    }

    private static void secondRoundAsks() {
        Face x = new Real();
        Check.dues(x, "begin 0 0 7 = 3", "run 100 = 6", "propose 0 9 = 0", "run 100 = 12");
        Check.dues(x, "begin 1 1 56 = 3", "run 4 = 4", "leader 1 0 = 1", "leader 1 5 = 1", "message 0 6 = 1",
                "run 1 = 1", "leader 1 0 = 2", "leader 1 5 = 1", "count 0 = 4");
        Check.dues(x, "message 1 0 = 3", "message 1 1 = 1", "message 1 2 = 0", "message 1 3 = 1", "message 1 4 = 0",
                "message 3 2 = 2", "run 2 = 2", "voter 0 0 = 1", "voter 1 0 = 0");
        Check.dues(x, "message 2 0 = 4", "message 2 1 = 0", "message 2 2 = 1", "message 2 3 = 1", "message 2 4 = 0",
                "message 2 6 = 1", "deliver 2 = 4", "leader 1 13 = 1", "leader 1 0 = 2", "leader 1 6 = 0");
        Check.dues(x, "deliver 1 = 3", "deliver 1 = 4", "leader 1 13 = 5", "leader 1 0 = 3", "leader 1 6 = 1",
                "leader 1 7 = 1", "slot 1 0 0 = 1", "slot 1 0 1 = 9", "count 0 = 4", "message 1 0 = 5",
                "message 1 2 = 3", "message 3 2 = 5", "message 1 3 = 1", "message 1 4 = 0", "message 1 5 = 9");
    }

    private static void groupsOfHistoryNeedMajorities() {
        Face x = new Real();
        Check.dues(x, "begin 0 0 3 = 3", "run 9 = 6", "begin 1 1 12 = 3", "run 7 = 7", "lose 0 = 3", "lose 0 = 4");
        Check.dues(x, "leader 1 0 = 2", "begin 2 2 16 = 3", "run 6 = 6", "leader 2 0 = 2", "leader 2 5 = 2",
                "count 0 = 4");
        Check.dues(x, "deliver 0 = 3", "deliver 3 = 4", "deliver 0 = 3", "deliver 2 = 4", "leader 2 0 = 2",
                "leader 2 13 = 3", "deliver 0 = 3", "deliver 1 = 4", "leader 2 0 = 2", "deliver 0 = 3",
                "deliver 0 = 4", "leader 2 0 = 3", "leader 2 13 = 15");
    }

    private static void keeperSaysNo() {
        Face x = new Real();
        Check.dues(x, "begin 1 7 1 = 3", "run 100 = 6", "begin 0 3 2 = 3", "run 3 = 3", "message 0 0 = 15",
                "message 0 1 = 0", "message 0 2 = 0", "message 0 3 = 3", "message 0 4 = 7", "message 0 5 = 0",
                "leader 0 0 = 1", "run 1 = 1", "leader 0 0 = 0", "keeper 0 3 = 1");
        Check.dues(x, "run 5 = 2", "begin 0 6 2 = 3", "begin 0 9 2 = 6", "run 3 = 3", "message 3 0 = 15");
        Check.dues(x, "deliver 3 = 15", "leader 0 0 = 1", "run 100 = 10", "leader 0 0 = 3");
        Check.dues(x, "propose 0 5 = 0", "run 50 = 8", "collect 0 = true", "run 100 = 10", "keeper 0 2 = 9",
                "begin 1 8 1 = throws.IllegalArgumentException", "begin 2 8 1 = 3", "run 3 = 3", "message 0 0 = 15",
                "message 0 4 = 9");
    }

    /** A keeper with 12 entries says NO, as the words go also to a round that it has. */
    private static void twelveEntries() {
        Face x = new Real();
        for (int round = 0; round < 11; round++) {
            Check.due(x, "begin " + round % 3 + " " + round + " 1", 3);
            x.run(200);
            Check.due(x, "leader " + round % 3 + " 0", 3);
        }
        Check.dues(x, "keeper 0 3 = 11", "begin 2 11 2 = 3", "twice 0 = 4", "run 3 = 3", "keeper 0 3 = 12",
                "entry 0 11 false = 11", "message 1 0 = 2", "message 1 6 = 11", "run 1 = 1", "message 3 0 = 15",
                "message 3 3 = 11", "message 3 4 = 11", "run 3 = 3", "leader 2 0 = 2", "run 1 = 1", "leader 2 0 = 0",
                "leader 2 5 = 11");
        Check.dues(x, "run 100 = 2", "begin 0 12 2 = 3", "run 100 = 6", "leader 0 0 = 0", "keeper 0 3 = 12");
    }

    private static void voterRefuses() {
        Face x = new Real();
        Check.dues(x, "begin 0 0 7 = 3", "run 100 = 6", "propose 0 4 = 0", "lose 0 = 5", "lose 0 = 5");
        Check.dues(x, "begin 1 1 7 = 4", "lose 0 = 5", "run 20 = 12", "leader 1 0 = 3", "voter 0 0 = 1");
        Check.dues(x, "propose 0 5 = 1", "deliver 0 = 5", "message 2 0 = 24", "message 2 1 = 0", "message 2 2 = 0",
                "message 2 3 = 0", "message 2 4 = 1", "vote 0 1 true = -1", "voter 0 0 = 1", "slot 0 0 1 = 4");
        Check.dues(x, "deliver 2 = 24", "leader 0 0 = 0", "slot 0 0 0 = 0", "slot 0 0 1 = 4", "leader 0 1 = 0",
                "leader 0 7 = 0", "propose 0 6 = -1", "collect 0 = false", "again 0 = 0");
    }

    /** ASK of a lower round comes to a voter that PROMISED a higher one. */
    private static void voterRefusesAsk() {
        Face x = new Real();
        Check.dues(x, "begin 0 0 1 = 3", "run 100 = 6", "begin 1 1 1 = 3", "run 6 = 6", "message 0 0 = 3",
                "begin 2 2 1 = 4", "deliver 1 = 1", "deliver 1 = 1", "deliver 2 = 2", "deliver 2 = 2",
                "message 2 0 = 3", "deliver 2 = 3", "voter 0 0 = 2", "deliver 0 = 3", "message 2 0 = 24",
                "message 2 2 = 1", "message 2 3 = 1", "message 2 4 = 2", "deliver 2 = 24", "leader 1 0 = 0",
                "leader 1 5 = 1");
    }

    private static void beginForgets() {
        Face x = new Real();
        Check.dues(x, "begin 0 0 3 = 3", "run 100 = 6", "propose 0 4 = 0", "run 100 = 10", "slot 0 0 0 = 3",
                "collect 0 = true", "run 100 = 10", "leader 0 10 = 3");
        Check.dues(x, "begin 0 3 1 = 3", "leader 0 10 = 0", "slot 0 0 0 = 0", "slot 0 0 1 = -1", "slot 0 0 2 = 0",
                "slot 0 0 3 = 0", "leader 0 7 = 0", "run 5 = 5", "leader 0 0 = 2", "leader 0 5 = 1");
        Check.dues(x, "begin 0 6 1 = 6", "leader 0 0 = 1", "leader 0 5 = 0", "leader 0 13 = 0");
        Check.dues(x, "reform 0 0 56 = 9", "begin 0 9 1 = 12", "leader 0 11 = 1", "leader 0 12 = 56");
    }

    /** MATCHED and ASKED of an earlier round, or once the phase is over, do nothing. */
    private static void strangeAnswersAreNothing() {
        Face x = new Real();
        Check.dues(x, "begin 0 0 1 = 3", "run 3 = 3", "begin 0 3 1 = 6", "run 3 = 3", "leader 0 0 = 1",
                "leader 0 1 = 3", "run 3 = 3", "run 2 = 2", "leader 0 0 = 2", "leader 0 5 = 1", "twice 1 = 3",
                "run 1 = 1", "leader 0 0 = 2", "deliver 0 = 3", "begin 0 6 1 = 5", "deliver 1 = 4",
                "leader 0 0 = 1", "leader 0 13 = 0");
    }

    private static void wrongInputs() {
        Face x = new Real();
        Check.index(x, "begin -1 0 1", "begin 3 0 1", "begin 3 300 0", "begin 2147483647 0 1", "begin -2147483648 0 1");
        Check.argument(x, "begin 0 1 1", "begin 0 -3 1", "begin 0 300 1", "begin 2 -1 1", "begin 1 0 1",
                "begin 0 0 0", "begin 0 0 -1", "begin 0 0 63", "begin 0 0 4096", "begin 0 0 4097", "begin 0 0 4095",
                "begin 0 0 -2147483648", "begin 0 2147483646 1", "begin 0 -2147483646 1");
        Check.dues(x, "begin 0 3 1 = 3");
        Check.argument(x, "begin 0 3 1", "begin 0 0 1");
        Check.dues(x, "up 0 0 false = true");
        Check.index(x, "begin 3 3 0");
        Check.argument(x, "begin 0 3 1", "begin 0 6 0");
        Check.state(x, "begin 0 6 1");
        Check.dues(x, "begin 1 1 1 = 6", "up 0 0 true = false", "begin 0 6 1 = 9");
    }
}
