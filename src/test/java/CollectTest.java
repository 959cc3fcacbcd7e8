/** Promise 4 (collect), and what comes of it: kinds 9 to 14. */
public final class CollectTest {
    public static void main(String[] args) {
        stages();
        knownSlotsAreSettled();
        whenItCanBe();
        collectAgain();
        numbersMustFit();
        voterKnowsMore();
        voterRefusesKnow();
        keepersOfOtherGeneration();
        goingOnWhileCollecting();
        watermarkHidesEntries();
        releasedWhenIdle();
        wrongInputs();
        Check.end();
    }

    private static Face twoRounds() {
        Face x = new Real();
        Check.lead(x, 0, 0, 7);
        x.propose(0, 5);
        x.propose(0, 6);
        x.run(100);
        Check.lead(x, 1, 1, 56);
        return x;
    }

    private static void stages() {
        Face x = twoRounds();
        Check.dues(x, "leader 1 9 = 2", "collect 1 = true", "leader 1 10 = 1", "count 0 = 3", "message 0 0 = 9",
                "message 0 1 = 1", "message 0 2 = 3", "message 2 2 = 5", "message 0 3 = 1", "message 0 4 = 2");
        Check.dues(x, "run 1 = 1", "voter 3 1 = 2", "message 2 0 = 10", "message 2 1 = 3", "message 2 2 = 1",
                "message 2 3 = 1", "message 2 4 = 2", "deliver 2 = 10", "leader 1 10 = 1", "deliver 0 = 9",
                "deliver 1 = 10", "leader 1 10 = 2", "count 0 = 4", "lose 0 = 9");
        Check.dues(x, "message 0 0 = 11", "message 0 1 = 1", "message 0 2 = 0", "message 2 2 = 2", "message 0 3 = 0",
                "message 0 4 = 1", "keeper 0 3 = 2", "deliver 0 = 11", "keeper 0 3 = 1", "keeper 0 2 = 1",
                "entry 0 0 false = 1", "entry 0 0 true = 56", "message 2 0 = 12", "message 2 1 = 0", "message 2 2 = 1",
                "message 2 3 = 0", "message 2 4 = 1", "deliver 2 = 12", "leader 1 10 = 2", "leader 1 5 = 1");
        Check.dues(x, "deliver 0 = 11", "deliver 1 = 12", "leader 1 10 = 3", "leader 1 5 = 0", "leader 1 13 = 0",
                "count 0 = 4", "message 1 0 = 13", "message 1 1 = 1", "message 1 2 = 0", "message 3 2 = 2",
                "message 1 3 = 1", "message 1 4 = 0", "voter 0 2 = 2", "deliver 1 = 13", "voter 0 2 = 0",
                "vote 0 1 true = -1", "voter 1 2 = 2", "message 3 0 = 14", "message 3 1 = 0", "message 3 2 = 1",
                "message 3 3 = 1", "deliver 3 = 14", "leader 1 13 = 1");
        Check.dues(x, "run 100 = 6", "leader 1 13 = 7", "keeper 2 2 = 1", "voter 3 2 = 2", "leader 1 0 = 3");
    }

    private static void knownSlotsAreSettled() {
        Face x = twoRounds();
        Check.dues(x, "collect 1 = true", "run 100 = 18");
        Check.lead(x, 2, 2, 448);
        Check.dues(x, "leader 2 5 = 1", "leader 2 6 = 2", "leader 2 7 = 2", "leader 2 8 = 2", "leader 2 9 = 2",
                "slot 2 0 0 = 4", "slot 2 0 1 = -1", "slot 2 1 0 = 4", "slot 2 1 2 = 0", "slot 2 2 0 = 0",
                "voter 6 2 = 0", "propose 2 8 = 2", "run 100 = 12", "leader 2 9 = 3", "agreed 2 = 8",
                "collect 2 = true", "message 0 4 = 3", "run 100 = 18", "voter 3 2 = 0", "voter 6 2 = 1");
    }

    /** FIRM is what is STORED; all below BASE must be CHOSEN, but what is proposed from BASE on need not be. */
    private static void whenItCanBe() {
        Face x = new Real();
        Check.dues(x, "collect 0 = false", "begin 0 0 7 = 3", "collect 0 = false", "run 100 = 6", "propose 0 5 = 0",
                "propose 0 6 = 1", "collect 0 = true", "message 6 4 = 0", "run 8 = 8", "leader 0 10 = 1");
        x.run(100);
        Check.dues(x, "leader 0 10 = 3", "begin 1 1 1 = 3", "run 10 = 10", "leader 1 0 = 2", "collect 1 = false",
                "leader 1 10 = 0", "run 1 = 1", "leader 1 0 = 3", "leader 1 6 = 2", "collect 1 = false",
                "leader 1 10 = 0");
        Check.dues(x, "deliver 1 = 5", "deliver 2 = 6", "slot 1 0 0 = 2", "collect 1 = false", "deliver 1 = 5",
                "deliver 4 = 6", "slot 1 1 0 = 2", "leader 1 9 = 0", "count 0 = 7", "collect 1 = true",
                "message 7 0 = 9", "message 7 4 = 0", "leader 1 10 = 1");
    }

    private static void collectAgain() {
        Face x = twoRounds();
        Check.dues(x, "collect 1 = true", "run 14 = 14", "leader 1 10 = 3", "collect 1 = true", "leader 1 10 = 1",
                "leader 1 13 = 3", "run 2000 = 16", "leader 1 10 = 3", "leader 1 13 = 0", "voter 2 2 = 0");
        Check.dues(x, "collect 1 = true", "run 100 = 12", "leader 1 10 = 3", "leader 1 13 = 0", "again 1 = 0");
    }

    /** KNOWN with a number of an earlier collecting is not noted. */
    private static void numbersMustFit() {
        Face x = new Real();
        Check.lead(x, 0, 0, 7);
        Check.dues(x, "collect 0 = true", "run 3 = 3", "propose 0 5 = 0", "deliver 3 = 5", "deliver 3 = 5",
                "deliver 4 = 6", "deliver 4 = 6", "slot 0 0 0 = 2", "deliver 4 = 7", "deliver 4 = 7", "deliver 5 = 8",
                "deliver 5 = 8", "leader 0 9 = 1", "collect 0 = true", "leader 0 10 = 1", "run 3 = 3",
                "leader 0 10 = 1", "count 0 = 5", "message 2 0 = 9", "message 2 4 = 1");
        x.run(100);
        Check.dues(x, "leader 0 10 = 3", "voter 0 1 = 1");
    }

    /** A voter that knows more stays with it and answers the number that it was told. */
    private static void voterKnowsMore() {
        Face x = new Real();
        Check.lead(x, 0, 0, 1);
        Check.dues(x, "collect 0 = true", "propose 0 5 = 0", "twice 0 = 3", "run 2 = 2", "lose 0 = 9");
        x.run(100);
        Check.dues(x, "leader 0 9 = 1", "leader 0 10 = 3", "collect 0 = true", "run 1 = 1", "voter 0 1 = 1");
        x = new Real();
        Check.lead(x, 0, 0, 1);
        Check.dues(x, "collect 0 = true", "propose 0 5 = 0", "deliver 1 = 5", "deliver 1 = 6", "deliver 1 = 7",
                "deliver 1 = 7", "deliver 2 = 8", "deliver 2 = 8", "leader 0 9 = 1", "collect 0 = true",
                "message 2 4 = 1", "deliver 2 = 9", "voter 0 1 = 1", "deliver 0 = 9", "voter 0 1 = 1",
                "message 2 0 = 10", "message 2 4 = 0", "deliver 2 = 10", "leader 0 10 = 1", "deliver 1 = 10",
                "leader 0 10 = 2");
    }

    private static void voterRefusesKnow() {
        Face x = twoRounds();
        Check.lead(x, 2, 2, 7);
        Check.dues(x, "collect 1 = true", "run 3 = 3", "message 0 0 = 24", "message 0 1 = 3", "message 0 2 = 1",
                "message 0 3 = 1", "message 0 4 = 2", "voter 3 1 = 0", "run 1 = 1", "leader 1 0 = 0",
                "leader 1 10 = 1", "collect 1 = false", "run 100 = 2", "leader 1 10 = 1");
    }

    private static void keepersOfOtherGeneration() {
        Face x = twoRounds();
        Check.dues(x, "reform 0 0 56 = 3", "run 300 = 24", "collect 1 = true", "run 6 = 6", "leader 1 10 = 2",
                "run 3 = 3", "message 0 0 = 23", "message 0 3 = 1", "message 0 4 = 56", "run 3 = 3",
                "leader 1 3 = 1", "leader 1 4 = 56", "leader 1 10 = 2", "again 1 = 3", "message 0 0 = 11",
                "message 0 2 = 3", "message 0 3 = 1", "run 100 = 12", "leader 1 10 = 3", "keeper 3 2 = 1",
                "keeper 3 3 = 1", "keeper 0 3 = 2", "keeper 0 2 = 0");
        Face y = twoRounds();
        Check.dues(y, "collect 1 = true", "reform 0 0 56 = 6", "run 6 = 6", "count 0 = 6", "keeper 0 0 = 3",
                "lose 3 = 17", "lose 3 = 17", "lose 3 = 17", "run 3 = 3", "leader 1 10 = 2", "run 3 = 3",
                "count 0 = 0", "leader 1 10 = 2");
    }

    /** Keeper 0 of the old set was noted already: with the new set two others are needed. */
    private static void goingOnWhileCollecting() {
        Face x = twoRounds();
        Check.dues(x, "collect 1 = true", "run 6 = 6", "deliver 0 = 11", "deliver 2 = 12", "leader 1 10 = 2",
                "lose 0 = 11", "lose 0 = 11", "reform 0 0 56 = 3", "run 99 = 24", "again 1 = 2", "run 4 = 4",
                "leader 1 3 = 1", "leader 1 10 = 2", "again 1 = 3", "deliver 0 = 11", "deliver 2 = 12",
                "leader 1 10 = 2", "leader 1 5 = 1", "deliver 0 = 11", "deliver 1 = 12", "leader 1 10 = 3",
                "leader 1 5 = 0");
    }

    /** Round 2's keepers 0 and 1 know that round 1 was let go, keeper 2 does not: the WATERMARK tells. */
    private static void watermarkHidesEntries() {
        Face x = twoRounds();
        Check.dues(x, "collect 1 = true", "run 6 = 6", "run 2 = 2", "lose 0 = 11", "run 100 = 8", "keeper 0 3 = 1",
                "keeper 2 3 = 2", "keeper 2 2 = 0");
        Check.dues(x, "begin 2 2 64 = 3", "deliver 2 = 1", "message 2 6 = 2", "message 2 5 = 0", "deliver 2 = 2",
                "leader 2 5 = 2", "deliver 0 = 1", "message 1 6 = 1", "message 1 5 = 1", "deliver 1 = 2",
                "leader 2 0 = 2", "leader 2 5 = 1", "count 0 = 4", "message 1 2 = 3", "message 3 2 = 5");
    }

    private static void releasedWhenIdle() {
        Face x = twoRounds();
        Check.dues(x, "collect 1 = true", "run 12 = 12", "leader 1 10 = 3", "count 0 = 3", "run 3 = 3",
                "begin 2 2 56 = 6");
        x.run(3);
        Check.dues(x, "leader 1 13 = 7", "leader 1 0 = 3");
        Face y = twoRounds();
        Check.dues(y, "collect 1 = true", "run 15 = 15", "count 0 = 3", "message 0 0 = 14", "begin 2 2 56 = 6",
                "deliver 3 = 1", "deliver 3 = 1", "deliver 4 = 2", "deliver 4 = 2", "leader 2 0 = 2",
                "propose 1 9 = 2", "count 0 = 10");
        Check.dues(y, "deliver 4 = 3", "voter 3 0 = 2", "deliver 6 = 5", "message 9 0 = 24", "deliver 9 = 24",
                "leader 1 0 = 0", "leader 1 10 = 3", "deliver 0 = 14", "leader 1 13 = 1", "deliver 0 = 14",
                "leader 1 13 = 3", "again 1 = 0");
        Check.dues(y, "begin 1 4 1 = 10", "deliver 0 = 14", "leader 1 13 = 0");
    }

    private static void wrongInputs() {
        Face x = twoRounds();
        Check.index(x, "collect -1", "collect 3", "collect 2147483647");
        Check.dues(x, "up 0 1 false = true");
        Check.state(x, "collect 1");
        Check.index(x, "collect 3");
        Check.dues(x, "collect 0 = true", "collect 2 = false", "up 0 1 true = false", "collect 1 = true");
    }
}
