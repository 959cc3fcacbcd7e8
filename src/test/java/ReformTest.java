/** Promise 5 (reform), and what comes of it: kinds 16 to 23. */
public final class ReformTest {
    public static void main(String[] args) {
        steps();
        entriesAndWatermarkAreSeeded();
        moreThanTwelveEntries();
        pickIsTakenOver();
        greatestPickIsTakenOver();
        lowerBallotsAreNothing();
        gone();
        goingOnWhileMatching();
        overlappingSets();
        seededKeepersAreSeededAgain();
        leftKeepersServeAgain();
        movedNeedsTheSameSet();
        reformForgets();
        edges();
        wrongInputs();
        Check.end();
    }

    private static void steps() {
        Face x = new Real();
        Check.dues(x, "reform 1 4 56 = 3", "leader 1 11 = 1", "leader 1 12 = 56", "leader 1 0 = 0", "message 0 0 = 16",
                "message 0 1 = 1", "message 0 2 = 0", "message 2 2 = 2", "message 0 3 = 0", "message 0 4 = 4",
                "message 0 5 = 0");
        Check.dues(x, "deliver 1 = 16", "keeper 1 0 = 3", "keeper 1 4 = 4", "keeper 1 1 = 0", "keeper 0 0 = 2",
                "message 2 0 = 17", "message 2 1 = 1", "message 2 2 = 1", "message 2 3 = 0", "message 2 4 = 4",
                "message 2 5 = 0", "message 2 6 = 0", "message 2 7 = -1", "message 2 8 = 0", "message 1 7 = 0");
        Check.dues(x, "deliver 2 = 17", "leader 1 11 = 1", "deliver 0 = 16", "deliver 1 = 17", "leader 1 11 = 2",
                "count 0 = 4", "message 1 0 = 18", "message 1 1 = 1", "message 1 2 = 3", "message 3 2 = 5",
                "message 1 3 = 1", "message 1 4 = 56", "message 1 5 = 0", "message 1 6 = 0", "message 1 7 = 0");
        Check.dues(x, "lose 0 = 16", "run 1 = 1", "keeper 3 0 = 1", "keeper 3 1 = 1", "keeper 3 4 = -1", "message 2 0 = 19",
                "message 2 1 = 3", "message 2 2 = 1", "message 2 3 = 1", "message 2 4 = 0", "run 4 = 4",
                "leader 1 11 = 2", "run 1 = 1", "leader 1 11 = 3", "message 0 0 = 20", "message 0 1 = 1",
                "message 0 2 = 0", "message 2 2 = 2", "message 0 3 = 0", "message 0 4 = 4", "message 0 5 = 56");
        Check.dues(x, "run 1 = 1", "keeper 0 5 = 4", "keeper 0 6 = 56", "keeper 0 4 = 4", "message 2 0 = 21",
                "message 2 1 = 0", "message 2 2 = 1", "message 2 3 = 0", "message 2 4 = 4", "run 2 = 2", "count 0 = 2",
                "keeper 2 5 = -1", "run 1 = 1", "leader 1 11 = 3", "run 1 = 1", "leader 1 11 = 0", "leader 1 3 = 1",
                "leader 1 4 = 56", "leader 1 12 = 56", "count 0 = 6");
        for (int k = 0; k < 6; k++) {
            Check.dues(x, "message " + k + " 0 = 22", "message " + k + " 1 = 1", "message " + k + " 2 = " + k,
                    "message " + k + " 3 = 0", "message " + k + " 4 = 56", "message " + k + " 5 = 0");
        }
        Check.dues(x, "keeper 0 7 = 0", "run 1 = 1", "keeper 0 7 = 56", "keeper 0 0 = 3", "run 2 = 2", "keeper 1 7 = 56",
                "keeper 2 7 = 0", "keeper 2 0 = 2", "keeper 3 0 = 1", "run 1 = 1", "keeper 3 0 = 2", "keeper 3 7 = 0",
                "run 9 = 2", "keeper 5 0 = 2", "keeper 5 1 = 1", "leader 0 3 = 0", "leader 0 4 = 7");
    }

    private static void entriesAndWatermarkAreSeeded() {
        Face x = new Real();
        Check.dues(x, "begin 0 0 7 = 3", "run 99 = 6", "begin 1 4 14 = 3", "run 99 = 12", "collect 1 = true",
                "run 99 = 18", "keeper 0 2 = 4", "begin 2 5 3 = 3", "lose 0 = 1", "lose 0 = 1", "run 99 = 2",
                "keeper 2 3 = 2", "keeper 0 3 = 1");
        Check.dues(x, "reform 0 0 448 = 3", "run 2 = 2", "lose 0 = 16", "message 0 5 = 4", "message 0 6 = 1", "run 2 = 2",
                "leader 0 11 = 2", "message 0 5 = 4", "message 0 6 = 1", "run 99 = 17", "keeper 6 3 = 1",
                "keeper 6 2 = 4", "entry 6 0 false = 4", "entry 6 0 true = 14");
        Face y = new Real();
        Check.dues(y, "begin 0 0 7 = 3", "lose 2 = 1", "run 99 = 4", "begin 1 1 3 = 3", "lose 0 = 1", "lose 0 = 1",
                "run 99 = 2", "keeper 0 3 = 1", "keeper 2 3 = 1", "reform 2 2 56 = 3", "lose 0 = 16", "run 4 = 4",
                "message 0 0 = 18", "message 0 6 = 2", "run 99 = 17", "keeper 4 3 = 2", "entry 4 0 false = 0",
                "entry 4 0 true = 7", "entry 4 1 false = 1", "entry 4 1 true = 3");
        Check.dues(y, "begin 2 2 1 = 3", "run 99 = 12", "leader 2 0 = 3", "keeper 3 3 = 3", "keeper 0 3 = 1");
    }

    /** Keeper 0 has rounds 0 to 11, keeper 1 rounds 12 to 23: those seeded get all 24, and say NO. */
    private static void moreThanTwelveEntries() {
        Face x = new Real();
        for (int round = 0; round < 24; round++) {
            x.begin(round % 3, round, 1);
            x.deliver(round < 12 ? 0 : 1);
            while (x.count(0) > 0) {
                x.lose(0);
            }
        }
        Check.dues(x, "keeper 0 3 = 12", "keeper 1 3 = 12", "keeper 2 3 = 0", "reform 0 0 56 = 3", "run 99 = 24",
                "keeper 3 3 = 24", "entry 3 23 false = 23", "entry 5 12 true = 1");
        Check.index(x, "entry 3 24 false");
        Check.dues(x, "begin 0 24 1 = 3", "run 3 = 3", "message 0 0 = 15", "message 0 4 = 23", "run 99 = 3",
                "leader 0 0 = 0", "keeper 3 3 = 24", "reform 0 3 448 = 3", "run 3 = 3", "message 0 6 = 24");
    }

    /** Leader 0 gets its PICK to keeper 0 alone; leader 1, who wants another set, hears of it and takes it over. */
    private static void pickIsTakenOver() {
        Face x = new Real();
        Check.dues(x, "reform 0 0 56 = 3", "run 12 = 12", "leader 0 11 = 3", "deliver 0 = 20", "keeper 0 6 = 56",
                "lose 0 = 20", "lose 0 = 20", "lose 0 = 21");
        Check.dues(x, "reform 1 1 448 = 3", "run 3 = 3", "message 0 7 = 0", "message 0 8 = 56", "message 1 7 = -1",
                "run 1 = 1", "leader 1 12 = 448", "run 1 = 1", "leader 1 12 = 56", "leader 1 11 = 3",
                "message 1 0 = 20", "message 1 4 = 1", "message 1 5 = 56", "run 99 = 13", "leader 1 3 = 1",
                "leader 1 4 = 56", "keeper 3 0 = 2", "keeper 6 0 = 0", "keeper 0 5 = 1", "keeper 0 6 = 56");
        Face y = new Real();
        Check.dues(y, "reform 0 0 56 = 3", "run 12 = 12", "deliver 0 = 20", "lose 0 = 20", "lose 0 = 20", "lose 0 = 21",
                "reform 1 1 448 = 3", "lose 0 = 16", "run 99 = 22", "leader 1 4 = 448", "leader 1 3 = 1",
                "keeper 6 0 = 2", "keeper 3 0 = 1", "keeper 0 7 = 448", "keeper 0 6 = 448");
        Check.dues(y, "again 0 = 3", "run 99 = 3", "leader 0 3 = 0", "leader 0 11 = 3", "reform 0 3 56 = 3",
                "run 99 = 6", "leader 0 4 = 448", "leader 0 11 = 0");
    }

    /** Keeper 0 has a PICK of ballot 0, keeper 1 one of ballot 1: that one is taken, whoever answers first. */
    private static void greatestPickIsTakenOver() {
        for (int first = 0; first < 2; first++) {
            Face x = new Real();
            Check.dues(x, "reform 0 0 56 = 3", "run 12 = 12", "deliver 0 = 20", "lose 0 = 20", "lose 0 = 20",
                    "lose 0 = 21", "reform 1 1 448 = 3", "lose 0 = 16", "run 10 = 10", "leader 1 11 = 3",
                    "message 0 0 = 20", "deliver 1 = 20", "keeper 1 6 = 448", "lose 0 = 20", "lose 0 = 20",
                    "lose 0 = 21", "reform 2 2 56 = 3", "run 2 = 2", "lose 0 = 16", "keeper 0 6 = 56");
            Check.dues(x, "deliver " + first + " = 17", "deliver 0 = 17", "leader 2 11 = 3", "leader 2 12 = 448",
                    "message 0 4 = 2", "message 0 5 = 448");
        }
    }

    private static void lowerBallotsAreNothing() {
        Face x = new Real();
        Check.dues(x, "reform 1 4 56 = 3", "run 3 = 3", "reform 0 3 448 = 6", "deliver 3 = 16", "count 0 = 5",
                "keeper 0 4 = 4", "run 99 = 23", "leader 1 3 = 1", "leader 0 11 = 1", "leader 0 3 = 0");
        Face y = new Real();
        Check.dues(y, "reform 0 0 56 = 3", "run 12 = 12", "leader 0 11 = 3", "reform 1 1 448 = 6", "deliver 3 = 16",
                "deliver 3 = 16", "keeper 0 4 = 1", "run 2 = 2", "keeper 0 5 = -1", "count 0 = 4", "run 1 = 1",
                "keeper 2 5 = 0", "leader 0 11 = 3");
        Face z = new Real();
        Check.dues(z, "reform 0 0 56 = 3", "run 3 = 3", "reform 0 3 448 = 6", "run 3 = 3", "leader 0 11 = 1",
                "leader 0 12 = 448", "run 3 = 3", "run 2 = 2", "leader 0 11 = 2");
        Face same = new Real();
        Check.dues(same, "reform 0 0 56 = 3", "twice 0 = 4", "run 4 = 4", "keeper 0 0 = 3", "message 3 0 = 17",
                "message 3 1 = 0", "deliver 0 = 17", "deliver 2 = 17", "leader 0 11 = 1");
    }

    private static void gone() {
        Face x = new Real();
        Check.dues(x, "reform 0 0 56 = 3", "run 99 = 24", "begin 1 1 1 = 3", "reform 1 1 448 = 6", "run 3 = 3",
                "message 3 0 = 23", "message 3 1 = 0", "message 3 2 = 1", "message 3 3 = 1", "message 3 4 = 56",
                "run 3 = 3", "message 3 0 = 23", "leader 1 11 = 1", "run 1 = 1", "leader 1 3 = 1", "leader 1 4 = 56",
                "leader 1 11 = 0", "leader 1 0 = 1", "leader 1 12 = 448", "run 99 = 5", "leader 1 3 = 1");
        Check.dues(x, "reform 0 3 448 = 3", "run 99 = 24", "leader 0 3 = 2", "begin 2 2 1 = 3", "twice 0 = 4",
                "run 4 = 4", "message 0 3 = 1", "run 4 = 4", "leader 2 3 = 1", "again 2 = 3", "run 3 = 3",
                "message 0 3 = 2", "message 0 4 = 448", "run 3 = 3", "leader 2 3 = 2", "again 2 = 3", "run 99 = 6",
                "leader 2 0 = 3", "keeper 8 3 = 1");
        Face y = new Real();
        Check.dues(y, "reform 0 0 56 = 3", "run 18 = 18", "lose 0 = 22", "lose 0 = 22", "begin 1 1 1 = 7",
                "deliver 4 = 1", "count 0 = 6", "run 4 = 4", "deliver 0 = 1", "count 0 = 1", "message 0 2 = 2",
                "run 1 = 1", "message 0 0 = 23");
    }

    /** What two generations' keepers noted is not thrown together; a PICKED leader forgets MATCHED as well. */
    private static void goingOnWhileMatching() {
        Face x = new Real();
        Check.dues(x, "begin 0 0 1 = 3", "run 99 = 6", "begin 1 1 2 = 3", "deliver 0 = 1", "deliver 2 = 2",
                "leader 1 5 = 1", "lose 0 = 1", "lose 0 = 1", "reform 0 0 56 = 3", "run 99 = 24", "again 1 = 2",
                "message 0 2 = 1", "run 4 = 4", "leader 1 3 = 1", "leader 1 0 = 1", "leader 1 5 = 0", "again 1 = 3",
                "message 0 2 = 3", "message 0 3 = 1", "run 4 = 4", "leader 1 0 = 1", "leader 1 5 = 1", "run 1 = 1",
                "leader 1 0 = 2", "run 99 = 3", "leader 1 0 = 3", "entry 4 1 true = 2");
        Face y = new Real();
        Check.dues(y, "begin 0 0 1 = 3", "deliver 1 = 1", "deliver 2 = 2", "lose 0 = 1", "lose 0 = 1",
                "reform 0 0 56 = 3", "run 99 = 24", "leader 0 0 = 1", "again 0 = 3", "message 0 2 = 3",
                "message 2 2 = 5", "run 99 = 6", "leader 0 0 = 3", "keeper 5 3 = 1");
        Face late = new Real();
        Check.dues(late, "begin 1 1 1 = 3", "run 3 = 3", "reform 1 1 56 = 6", "deliver 3 = 16", "deliver 3 = 16",
                "deliver 3 = 16", "deliver 3 = 17", "deliver 3 = 17", "leader 1 11 = 2");
        for (int i = 0; i < 3; i++) {
            late.lose(0);
        }
        late.run(99);
        Check.dues(late, "leader 1 3 = 1", "leader 1 0 = 1", "again 1 = 3");
    }

    /** A keeper of the old set that does not know its NEXT set cannot be seeded. */
    private static void overlappingSets() {
        Face x = new Real();
        Check.dues(x, "reform 0 0 28 = 3", "run 99 = 11", "leader 0 11 = 2", "keeper 2 0 = 3", "keeper 3 0 = 1",
                "again 0 = 1", "message 0 0 = 18", "message 0 2 = 2", "run 99 = 1", "leader 0 11 = 2");
        Check.dues(x, "reform 1 1 7 = 3", "run 99 = 9", "leader 1 11 = 2", "reform 1 4 56 = 3", "run 99 = 24",
                "leader 1 3 = 1", "keeper 3 0 = 2");
    }

    private static void seededKeepersAreSeededAgain() {
        Face x = new Real();
        Check.dues(x, "reform 0 0 56 = 3", "run 9 = 9", "keeper 3 0 = 1", "count 0 = 3", "reform 1 1 112 = 6",
                "lose 0 = 19", "lose 0 = 19", "lose 0 = 19", "run 99 = 24", "leader 1 4 = 112", "keeper 4 0 = 2",
                "keeper 3 0 = 1", "again 0 = 3", "run 99 = 4", "keeper 3 0 = 1", "keeper 4 0 = 2", "leader 0 11 = 2");
        Face y = new Real();
        Check.dues(y, "reform 0 0 56 = 3", "run 6 = 6", "message 0 0 = 18", "twice 0 = 4", "lose 0 = 18", "lose 0 = 18",
                "lose 0 = 18", "reform 1 1 448 = 4");
        for (int i = 0; i < 3; i++) {
            y.deliver(1);
        }
        Check.dues(y, "count 0 = 4", "deliver 1 = 17", "deliver 1 = 17", "leader 1 11 = 2", "lose 1 = 17");
        for (int i = 0; i < 3; i++) {
            y.deliver(1);
        }
        Check.dues(y, "deliver 0 = 18", "keeper 3 0 = 1", "keeper 3 1 = 1", "run 99 = 16", "leader 1 3 = 1",
                "keeper 3 0 = 1", "reform 1 4 56 = 3", "run 99 = 24", "keeper 3 0 = 2", "keeper 3 1 = 2");
    }

    private static void leftKeepersServeAgain() {
        Face x = new Real();
        Check.dues(x, "begin 0 0 1 = 3", "run 99 = 6", "reform 0 0 56 = 3", "run 99 = 24", "reform 0 3 7 = 3",
                "run 6 = 6", "keeper 0 0 = 3", "keeper 0 7 = 56", "keeper 0 5 = 0", "message 0 0 = 18", "twice 0 = 4",
                "run 1 = 1", "keeper 0 0 = 1", "keeper 0 1 = 2", "keeper 0 7 = 0", "keeper 0 5 = -1", "keeper 0 6 = 0",
                "keeper 0 4 = -1", "keeper 0 3 = 1", "run 99 = 19", "keeper 0 0 = 2", "keeper 3 7 = 7",
                "leader 0 3 = 2");
        Check.dues(x, "reform 1 1 448 = 3", "run 3 = 3", "count 0 = 0", "leader 1 3 = 0", "leader 1 4 = 7",
                "leader 1 11 = 1");
    }

    private static void movedNeedsTheSameSet() {
        Face x = new Real();
        Check.dues(x, "reform 0 0 56 = 3", "run 12 = 12", "leader 0 11 = 3", "lose 0 = 20", "lose 0 = 20", "lose 0 = 20",
                "reform 0 3 88 = 3", "run 18 = 18", "leader 0 3 = 1", "leader 0 4 = 88", "message 3 2 = 3",
                "keeper 5 0 = 1", "run 99 = 6", "keeper 5 0 = 1", "keeper 3 0 = 2", "keeper 6 0 = 2");
        Face y = new Real();
        Check.dues(y, "reform 0 0 56 = 3", "run 12 = 12", "lose 0 = 20", "lose 0 = 20", "lose 0 = 20", "reform 0 3 88 = 3",
                "run 6 = 6", "message 0 0 = 18", "message 0 2 = 3", "run 3 = 3", "run 3 = 3", "run 6 = 6",
                "message 3 0 = 22", "message 3 2 = 3", "reform 1 1 56 = 9");
        Check.dues(y, "run 3 = 3", "keeper 0 7 = 88", "deliver 0 = 22", "keeper 3 0 = 2", "keeper 3 1 = 1");
    }

    private static void reformForgets() {
        Face x = new Real();
        Check.dues(x, "begin 2 2 1 = 3", "run 99 = 6", "reform 0 0 56 = 3", "run 4 = 4", "leader 0 11 = 1",
                "reform 0 3 448 = 5", "leader 0 11 = 1", "leader 0 12 = 448", "run 2 = 2", "leader 0 11 = 1",
                "again 0 = 3", "leader 0 5 = 0", "leader 2 0 = 3", "propose 2 5 = 0");
    }

    private static void edges() {
        Face x = new Real();
        Check.dues(x, "reform 0 0 7 = 3", "reform 2 299 448 = 6", "reform 1 298 273 = 9", "reform 0 297 11 = 12",
                "leader 0 12 = 11", "leader 2 12 = 448", "run 3 = 3", "keeper 0 4 = 0", "run 9 = 9", "keeper 0 4 = 299",
                "keeper 0 0 = 3");
        Check.argument(x, "reform 2 299 448", "reform 2 302 448", "reform 0 300 7");
    }

    private static void wrongInputs() {
        Face x = new Real();
        Check.index(x, "reform -1 0 7", "reform 3 0 7", "reform 3 1 0");
        Check.argument(x, "reform 0 1 7", "reform 0 -3 7", "reform 2 -1 7", "reform 0 300 7", "reform 0 0 0",
                "reform 0 0 3", "reform 0 0 15", "reform 0 0 512", "reform 0 0 515", "reform 0 0 -1", "reform 1 0 7",
                "reform 0 0 -2147483641", "reform 0 2147483646 7");
        Check.dues(x, "reform 0 3 7 = 3");
        Check.argument(x, "reform 0 3 7", "reform 0 0 7");
        Check.dues(x, "up 0 0 false = true");
        Check.index(x, "reform 3 6 7");
        Check.argument(x, "reform 0 3 7", "reform 0 6 6");
        Check.state(x, "reform 0 6 7");
        Check.dues(x, "up 0 0 true = false", "reform 0 6 7 = 6");
    }
}
