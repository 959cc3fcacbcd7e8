/** The document's edges, sentence by sentence: 2 ROUNDS (kinds 1 to 8, 15 and 24, to begin, to lead, to propose). */
public final class EdgeRoundsTest {
    public static void main(String[] args) {
        beginForgetsKeepersWatermarkAndEntries();
        beginForgetsVotesAndKnown();
        beginForgetsSlotsAndCollecting();
        anotherGroup();
        belowTheWatermark();
        belowAnEntrysRound();
        greatestOfEntriesAndWatermark();
        twelveEntries();
        twelveEntriesAndARoundItHas();
        moreThanTwelveEntries();
        entryOnce();
        keepersThatAreNotOn();
        keepersOfAnotherGeneration();
        matchedThatIsNotWaitedFor();
        matchedOfAnotherGeneration();
        twoKeepers();
        entriesBelowTheWatermarkGo();
        askEachVoterOnce();
        noHistory();
        askBelowPromised();
        allVotesAreTold();
        askedThatIsNotWaitedFor();
        majorityOfEachGroup();
        greatestKnown();
        voteOfTheGreatestRound();
        base();
        baseOfSixteen();
        settledSlots();
        knownAboveAVote();
        voteBelowPromised();
        laterVoteIsItsVote();
        votedThatIsNotWaitedFor();
        firstMajority();
        copyKeepsItsValue();
        toldThatIsNotWaitedFor();
        twoCopies();
        noOfAnotherRound();
        idleKeepsWhatItNoted();
        Check.end();
    }

    /** Keeper 0 alone has let rounds below 4 go; all three keepers have the entries 0, 1 and 4 otherwise. */
    private static Face watermarkAtKeeper0() {
        Face x = new Real();
        Check.lead(x, 0, 0, 1);
        Check.lead(x, 1, 1, 2);
        Check.lead(x, 1, 4, 4);
        Check.due(x, "collect 1", true);
        Play.come(x, "KNOW 1>2", "KNOWN 2>1", "COLLECT 1>0");
        Play.loseAll(x);
        Check.dues(x, "keeper 0 2 = 4", "keeper 0 3 = 1", "keeper 1 2 = 0", "keeper 1 3 = 3");
        return x;
    }

    /** "what it noted before of rounds is forgotten": a keeper, a watermark and entries that were noted in round 5. */
    private static void beginForgetsKeepersWatermarkAndEntries() {
        Face x = watermarkAtKeeper0();
        Check.dues(x, "begin 2 5 8 = 3");
        Play.come(x, "MATCH 2>0", "MATCHED 0>2");
        Check.dues(x, "leader 2 5 = 1", "leader 2 0 = 1");
        Play.loseAll(x);
        Check.dues(x, "begin 2 8 8 = 3", "leader 2 5 = 0", "again 2 = 3");
        Play.come(x, "MATCH 2>1", "MATCHED 1>2");
        Check.dues(x, "leader 2 0 = 1", "leader 2 5 = 3");
        Play.come(x, "MATCH 2>2", "MATCHED 2>2");
        Check.dues(x, "leader 2 0 = 2", "leader 2 5 = 3");
    }

    /** The same of voters, votes and the number KNOWN: voter 0 told of them in round 5, voters 1 and 2 know of none. */
    private static void beginForgetsVotesAndKnown() {
        Face x = new Real();
        Check.lead(x, 0, 0, 7);
        Check.dues(x, "propose 0 5 = 0");
        x.run(2000);
        Check.dues(x, "collect 0 = true", "propose 0 6 = 1");
        Play.come(x, "KNOW 0>0", "VOTE 0>0");
        Play.loseAll(x);
        Check.dues(x, "voter 0 1 = 1", "voter 0 2 = 2", "voter 1 1 = 0", "voter 1 2 = 1", "begin 2 5 8 = 3", "run 6 = 6");
        Play.come(x, "ASK 2>0", "ASKED 0>2");
        Check.dues(x, "leader 2 0 = 2", "leader 2 13 = 1");
        Play.loseAll(x);
        Check.dues(x, "begin 2 8 8 = 3", "leader 2 13 = 0", "run 3 = 3");
        Play.come(x, "MATCHED 0>2", "MATCHED 1>2", "ASK 2>1", "ASK 2>2", "ASKED 1>2");
        Check.dues(x, "leader 2 0 = 2", "leader 2 13 = 2");
        Play.come(x, "ASKED 2>2");
        Check.dues(x, "leader 2 0 = 2", "leader 2 5 = 2");
        Play.come(x, "ASK 2>3", "ASKED 3>2");
        Check.dues(x, "leader 2 0 = 3", "leader 2 13 = 14", "leader 2 8 = 0", "leader 2 6 = 1", "leader 2 7 = 1",
                "slot 2 0 0 = 1", "slot 2 0 1 = 5", "slot 2 1 1 = -1");
    }

    /** "(also its collecting)" */
    private static void beginForgetsSlotsAndCollecting() {
        Face x = new Real();
        Check.lead(x, 0, 0, 1);
        Check.lead(x, 1, 1, 2);
        Check.dues(x, "propose 1 5 = 0", "run 99 = 8", "collect 1 = true", "run 99 = 10", "leader 1 10 = 3",
                "leader 1 13 = 1");
        Check.dues(x, "begin 1 4 4 = 3");
        Play.all(x, "leader 1", 1, 4, 4, 0, 7, 0, 0, 0, 0, 0, 0, 0, 0, 0);
        Play.all(x, "slot 1 0", 0, -1, 0, 0);
        Check.dues(x, "run 99 = 8");
        Play.all(x, "leader 1", 3, 4, 4, 0, 7, 1, 1, 1, 1, 1, 0, 0, 0, 2);
        Play.all(x, "slot 1 0", 4, -1, 0, 0);
        Check.dues(x, "again 1 = 0", "propose 1 6 = 1");
        Play.all(x, "slot 1 1", 1, 6, 0, 0);
    }

    /**
     * "if the round has an entry with another group": no call leads there, since a round has one leader, who begins it
     * once; a second time, with the same group or another, is refused, and the entry stays.
     */
    private static void anotherGroup() {
        Face x = new Real();
        Check.dues(x, "begin 0 3 1 = 3", "run 1 = 1");
        Check.argument(x, "begin 0 3 2", "begin 0 3 1", "begin 1 3 2", "begin 2 3 2");
        Check.dues(x, "entry 0 0 false = 3", "entry 0 0 true = 1");
    }

    /** "if the round [..] has none and is below the WATERMARK [..]: NO": 5 is below 6; 6 is not, nor is 7. */
    private static void belowTheWatermark() {
        Face x = new Real();
        Check.dues(x, "begin 0 6 1 = 3");
        Play.come(x, "MATCH 0>0", "MATCH 0>1", "MATCHED 0>0", "MATCHED 1>0");
        Check.dues(x, "collect 0 = true");
        Play.come(x, "KNOW 0>0", "KNOWN 0>0", "COLLECT 0>2");
        Play.all(x, "keeper 2", 2, 0, 6, 0, -1, -1, 0, 0);
        Check.dues(x, "begin 2 5 1 = 7");
        Play.come(x, "MATCH 2>2");
        Play.tells(x, "NO 2>2", 5, 6);
        Check.dues(x, "keeper 2 3 = 0");
        Play.come(x, "MATCH 0>2");
        Play.tells(x, "MATCHED 2>0", 0, 6, 6, 0);
        Check.dues(x, "keeper 2 3 = 1", "entry 2 0 false = 6", "begin 1 7 1 = 10");
        Play.come(x, "MATCH 1>2");
        Play.tells(x, "MATCHED 2>1", 0, 7, 6, 1);
        Check.dues(x, "keeper 2 3 = 2");
    }

    /** "or an entry's round": 6 is above 3 and below 9; 3, which has its entry, is below 9 as well and is matched. */
    private static void belowAnEntrysRound() {
        Face x = new Real();
        Check.dues(x, "begin 0 3 1 = 3");
        Play.twice(x, "MATCH 0>0");
        Play.come(x, "MATCH 0>0");
        Play.lose(x, "MATCHED 0>0");
        Check.dues(x, "begin 0 6 1 = 6", "begin 0 9 1 = 9", "message 6 4 = 9", "deliver 6 = 1", "keeper 0 3 = 2");
        Play.tells(x, "MATCHED 0>0", 0, 9, 0, 1);
        Play.lose(x, "MATCHED 0>0");
        Check.dues(x, "message 2 4 = 3", "message 2 2 = 0", "deliver 2 = 1");
        Play.tells(x, "MATCHED 0>0", 0, 3, 0, 0);
        Check.dues(x, "message 2 4 = 6", "message 2 2 = 0", "deliver 2 = 1");
        Play.tells(x, "NO 0>0", 6, 9);
        Check.dues(x, "keeper 0 3 = 2", "entry 0 0 false = 3", "entry 0 1 false = 9");
    }

    /** "NO (round, the greatest of its entries' rounds and the WATERMARK)" */
    private static void greatestOfEntriesAndWatermark() {
        Face x = watermarkAtKeeper0();
        Check.dues(x, "begin 2 2 1 = 3");
        Play.come(x, "MATCH 2>0", "MATCH 2>1");
        Play.tells(x, "NO 0>2", 2, 4);
        Play.tells(x, "NO 1>2", 2, 4);
        Check.dues(x, "begin 0 9 1 = 6", "begin 2 8 1 = 9");
        Play.come(x, "MATCH 0>0");
        Check.dues(x, "message 5 0 = 1", "message 5 1 = 2", "message 5 4 = 8", "deliver 5 = 1", "keeper 0 2 = 4");
        Play.lose(x, "NO 0>2");
        Play.tells(x, "NO 0>2", 8, 9);
    }

    /** Round by round up to this one, each matched at keeper 0 alone. */
    private static Face entriesAtKeeper0(int upTo) {
        Face x = new Real();
        for (int round = 0; round <= upTo; round++) {
            x.begin(round % 3, round, 1);
            x.deliver(0);
            Play.loseAll(x);
        }
        Check.due(x, "keeper 0 3", upTo + 1);
        return x;
    }

    /** "or there are 12 entries or more: NO": the twelfth is taken, the thirteenth is not, and nothing goes for it. */
    private static void twelveEntries() {
        Face x = entriesAtKeeper0(10);
        Check.dues(x, "begin 2 11 6 = 3");
        Play.come(x, "MATCH 2>0");
        Play.tells(x, "MATCHED 0>2", 0, 11, 0, 11);
        Check.dues(x, "keeper 0 3 = 12", "entry 0 11 false = 11", "entry 0 11 true = 6", "begin 0 12 1 = 6");
        Play.come(x, "MATCH 0>0");
        Play.tells(x, "NO 0>0", 12, 11);
        Check.dues(x, "keeper 0 3 = 12", "entry 0 0 false = 0", "begin 0 297 1 = 9");
        Play.lose(x, "MATCH 0>1", "MATCH 0>2", "NO 0>0");
        Play.come(x, "MATCH 0>0");
        Play.tells(x, "NO 0>0", 297, 11);
        Play.come(x, "NO 0>0");
        Check.dues(x, "leader 0 0 = 0", "keeper 0 3 = 12");
        Check.index(x, "entry 0 12 false", "entry 0 12 true");
        roomAfterCollecting();
    }

    private static void roomAfterCollecting() {
        Face x = entriesAtKeeper0(10);
        Check.lead(x, 2, 11, 1);
        Check.dues(x, "keeper 0 3 = 12", "keeper 1 3 = 1", "collect 2 = true", "run 99 = 10", "keeper 0 3 = 1",
                "keeper 0 2 = 11");
        Check.lead(x, 0, 12, 1);
        Check.dues(x, "keeper 0 3 = 2");
    }

    /**
     * "or there are 12 entries or more: NO [..] Else it gets the entry, if it has it not": three cases stand before
     * NO, and the third says nothing of the round; so the twelfth's MATCH is matched once, and refused when it
     * comes again. With 11 entries the eleventh's MATCH is matched again.
     */
    private static void twelveEntriesAndARoundItHas() {
        Face x = entriesAtKeeper0(9);
        Check.dues(x, "begin 1 10 1 = 3");
        Play.twice(x, "MATCH 1>0");
        Play.come(x, "MATCH 1>0");
        Play.lose(x, "MATCHED 0>1");
        Check.due(x, "keeper 0 3", 11);
        Play.come(x, "MATCH 1>0");
        Play.tells(x, "MATCHED 0>1", 0, 10, 0, 10);
        Play.loseAll(x);
        Check.dues(x, "keeper 0 3 = 11", "begin 2 11 1 = 3");
        Play.twice(x, "MATCH 2>0");
        Play.come(x, "MATCH 2>0", "MATCHED 0>2");
        Check.dues(x, "keeper 0 3 = 12", "leader 2 5 = 11");
        Play.come(x, "MATCH 2>0");
        Play.tells(x, "NO 0>2", 11, 11);
        Check.due(x, "keeper 0 3", 12);
        Play.come(x, "NO 0>2");
        Check.dues(x, "leader 2 0 = 0", "leader 2 5 = 11");
    }

    /** "12 entries or more": a keeper that is seeded may have more than twelve, and refuses likewise. */
    private static void moreThanTwelveEntries() {
        Face x = entriesAtKeeper0(11);
        Check.dues(x, "begin 0 12 1 = 3");
        Play.come(x, "MATCH 0>1");
        Play.loseAll(x);
        Check.dues(x, "reform 1 1 56 = 3", "run 99 = 24", "keeper 3 3 = 13", "keeper 3 0 = 2", "begin 1 13 1 = 3");
        Play.come(x, "MATCH 1>3");
        Play.tells(x, "NO 3>1", 13, 12);
        Check.dues(x, "keeper 3 3 = 13", "entry 3 12 false = 12");
    }

    /** "Else it gets the entry, if it has it not, and sends MATCHED, with its entries of lower rounds." */
    private static void entryOnce() {
        Face x = new Real();
        Check.dues(x, "begin 0 0 1 = 3");
        Play.come(x, "MATCH 0>0");
        Check.dues(x, "begin 1 1 6 = 6");
        Play.twice(x, "MATCH 1>0");
        Play.come(x, "MATCH 1>0");
        Play.tells(x, "MATCHED 0>1", 0, 1, 0, 1);
        Play.lose(x, "MATCHED 0>1");
        Check.dues(x, "keeper 0 3 = 2", "entry 0 1 true = 6");
        Play.come(x, "MATCH 1>0");
        Play.tells(x, "MATCHED 0>1", 0, 1, 0, 1);
        Check.dues(x, "keeper 0 3 = 2", "entry 0 1 true = 6");
    }

    /** "A keeper that is not ON [..]: GONE, if it knows its NEXT set": one that is STOPPED, one that is READY. */
    private static void keepersThatAreNotOn() {
        Face x = new Real();
        Check.dues(x, "reform 0 0 56 = 3", "begin 1 1 1 = 6");
        Play.come(x, "STOP 0>0", "STOP 0>1");
        Play.nothing(x, "MATCH 1>0");
        Check.due(x, "keeper 0 3", 0);
        Play.come(x, "STOPPED 0>0", "STOPPED 1>0", "SEED 0>3", "SEED 0>4", "SEED 0>5", "SEEDED 3>0", "SEEDED 4>0",
                "SEEDED 5>0", "PICK 0>0", "PICK 0>1", "PICKED 0>0", "PICKED 1>0");
        Check.dues(x, "leader 0 4 = 56", "begin 0 0 1 = 13", "keeper 3 0 = 1");
        Play.nothing(x, "MATCH 0>3");
        Play.come(x, "MOVED 0>1", "MATCH 1>1");
        Play.tells(x, "GONE 1>1", 1, 56);
        Check.dues(x, "keeper 1 3 = 0", "keeper 3 3 = 0");
    }

    /** "or of another generation: GONE, if it knows its NEXT set": keeper 0 is ON again, of generation 2. */
    private static void keepersOfAnotherGeneration() {
        Face x = new Real();
        Check.dues(x, "begin 1 1 1 = 3", "begin 2 2 1 = 6");
        Play.come(x, "MATCH 2>0", "MATCH 2>1", "MATCHED 0>2", "MATCHED 1>2");
        Check.dues(x, "leader 2 0 = 3", "collect 2 = true");
        Play.come(x, "KNOW 2>0", "KNOWN 0>2");
        Play.lose(x, "MATCH 1>1", "MATCH 1>2", "MATCH 2>2", "COLLECT 2>1", "COLLECT 2>2");
        Play.air(x, "MATCH 1>0", "COLLECT 2>0");
        Check.dues(x, "reform 0 0 56 = 5");
        Play.come(x, "STOP 0>0", "STOP 0>1", "STOP 0>2", "STOPPED 0>0", "STOPPED 1>0");
        Play.come(x, "SEED 0>3", "SEED 0>4", "SEED 0>5", "SEEDED 3>0", "SEEDED 4>0", "SEEDED 5>0", "PICK 0>0", "PICK 0>1");
        Play.come(x, "PICKED 0>0", "PICKED 1>0", "MOVED 0>0", "MOVED 0>1", "MOVED 0>2", "MOVED 0>3", "MOVED 0>4");
        Check.dues(x, "reform 0 3 7 = 8");
        Play.come(x, "STOP 0>3", "STOP 0>4", "STOPPED 3>0", "STOPPED 4>0", "SEED 0>0", "SEED 0>1", "SEED 0>2");
        Play.come(x, "SEEDED 0>0", "SEEDED 1>0", "SEEDED 2>0", "PICK 0>3", "PICK 0>4", "PICKED 3>0", "PICKED 4>0",
                "MOVED 0>0");
        Check.dues(x, "keeper 0 0 = 2", "keeper 0 1 = 2", "keeper 0 3 = 1");
        Play.nothing(x, "MATCH 1>0");
        Play.nothing(x, "COLLECT 2>0");
    }

    /** "MATCHING in that round": in another phase, and in a later round, it is nothing. */
    private static void matchedThatIsNotWaitedFor() {
        Face x = new Real();
        Check.lead(x, 2, 2, 1);
        Check.dues(x, "begin 0 3 1 = 3", "run 3 = 3");
        Play.twice(x, "MATCHED 0>0");
        Play.twice(x, "MATCHED 0>0");
        Play.come(x, "MATCHED 0>0", "MATCHED 1>0");
        Check.due(x, "leader 0 0", 2);
        Play.nothing(x, "MATCHED 2>0");
        Play.come(x, "ASK 0>0", "ASKED 0>0");
        Check.due(x, "leader 0 0", 3);
        Play.nothing(x, "MATCHED 0>0");
        Check.due(x, "begin 0 6 1", 4);
        Play.nothing(x, "MATCHED 0>0");
        Face z = new Real();
        Check.dues(z, "begin 1 1 1 = 3");
        Play.come(z, "MATCH 1>1");
        Check.due(z, "begin 2 5 1", 6);
        Play.come(z, "MATCH 2>0", "MATCH 1>0");
        Play.come(z, "NO 0>1");
        Check.due(z, "leader 1 0", 0);
        Play.nothing(z, "MATCHED 1>1");
    }

    /** "its generation being that": keeper 0 of generation 0 had matched it, then it learned of generation 1. */
    private static void matchedOfAnotherGeneration() {
        Face x = new Real();
        Check.lead(x, 2, 2, 1);
        Check.dues(x, "begin 1 4 1 = 3");
        Play.come(x, "MATCH 1>0", "MATCH 1>1");
        Check.dues(x, "reform 0 0 56 = 6");
        Play.come(x, "STOP 0>0", "STOP 0>1", "STOP 0>2", "STOPPED 0>0", "STOPPED 1>0", "SEED 0>3", "SEED 0>4", "SEED 0>5",
                "SEEDED 3>0", "SEEDED 4>0", "SEEDED 5>0", "PICK 0>0", "PICK 0>1", "PICKED 0>0", "PICKED 1>0", "MOVED 0>2");
        Play.come(x, "MATCH 1>2", "GONE 2>1");
        Check.dues(x, "leader 1 3 = 1", "leader 1 0 = 1");
        Play.tells(x, "MATCHED 0>1", 0, 4, 0, 1);
        Play.nothing(x, "MATCHED 0>1");
        Play.nothing(x, "MATCHED 1>1");
        Check.due(x, "again 1", 3);
    }

    /** "When two of its set are noted": one that answers twice is one. */
    private static void twoKeepers() {
        Face x = new Real();
        Check.dues(x, "begin 0 0 1 = 3");
        Play.twice(x, "MATCH 0>2");
        Play.come(x, "MATCH 0>2", "MATCH 0>2", "MATCHED 2>0", "MATCHED 2>0");
        Check.dues(x, "leader 0 0 = 1", "again 0 = 2");
        Play.come(x, "MATCH 0>1", "MATCHED 1>0");
        Check.due(x, "leader 0 0", 3);
    }

    /** "entries below the watermark go, its HISTORY are the others": 0 and 1 are below 4, 4 is not. */
    private static void entriesBelowTheWatermarkGo() {
        Face x = watermarkAtKeeper0();
        Check.dues(x, "begin 2 5 8 = 3");
        Play.come(x, "MATCH 2>2", "MATCHED 2>2");
        Check.dues(x, "leader 2 5 = 3");
        Play.come(x, "MATCH 2>0", "MATCHED 0>2");
        Check.dues(x, "leader 2 0 = 2", "leader 2 5 = 1");
        Play.air(x, "MATCH 2>1", "ASK 2>2");
        Face y = watermarkAtKeeper0();
        Check.dues(y, "begin 2 5 8 = 3");
        Play.come(y, "MATCH 2>0", "MATCHED 0>2", "MATCH 2>2", "MATCHED 2>2");
        Check.dues(y, "leader 2 0 = 2", "leader 2 5 = 1");
        Play.air(y, "MATCH 2>1", "ASK 2>2");
    }

    /** "ASK to all voters of the groups of its HISTORY (one each)" */
    private static void askEachVoterOnce() {
        Face x = new Real();
        Check.lead(x, 0, 0, 7);
        Check.lead(x, 1, 1, 2060);
        Check.dues(x, "begin 2 2 16 = 3");
        Play.come(x, "MATCH 2>0", "MATCH 2>1", "MATCHED 0>2", "MATCHED 1>2");
        Play.air(x, "MATCH 2>2", "ASK 2>0", "ASK 2>1", "ASK 2>2", "ASK 2>3", "ASK 2>11");
        Play.tells(x, "ASK 2>11", 2, 0, 0, 0);
    }

    /** "of none: it LEADS" */
    private static void noHistory() {
        Face x = new Real();
        Check.dues(x, "begin 0 3 1 = 3");
        Play.come(x, "MATCH 0>0", "MATCH 0>2", "MATCHED 0>0");
        Check.due(x, "leader 0 0", 1);
        Play.come(x, "MATCHED 2>0");
        Play.all(x, "leader 0", 3, 3, 1, 0, 7, 0, 0, 0, 0, 0, 0, 0, 0, 0);
        Play.air(x, "MATCH 0>1");
    }

    /** "The round is below what it PROMISED: REFUSED [..] Else it is PROMISED": below, the same, above. */
    private static void askBelowPromised() {
        Face x = new Real();
        Check.lead(x, 0, 0, 1);
        Check.dues(x, "voter 0 0 = -1", "begin 1 1 1 = 3", "run 6 = 6", "begin 2 2 1 = 4");
        Play.twice(x, "ASK 1>0");
        Play.twice(x, "ASK 1>0");
        Play.come(x, "ASK 1>0");
        Play.tells(x, "ASKED 0>1", 1, 0, 0, 0);
        Check.due(x, "voter 0 0", 1);
        Play.come(x, "ASK 1>0");
        Play.lose(x, "ASKED 0>1");
        Play.tells(x, "ASKED 0>1", 1, 0, 0, 0);
        Play.come(x, "MATCH 2>0", "MATCH 2>1", "MATCHED 0>2", "MATCHED 1>2", "ASK 2>0");
        Check.due(x, "voter 0 0", 2);
        Play.come(x, "ASK 1>0");
        Play.tells(x, "REFUSED 0>1", 1, 2);
        Check.due(x, "voter 0 0", 2);
    }

    /** "ASKED, with all its votes": none, one, and all sixteen. */
    private static void allVotesAreTold() {
        for (int many = 0; many <= 16; many++) {
            Face x = new Real();
            Check.lead(x, 0, 0, 1);
            for (int slot = 0; slot < many; slot++) {
                x.propose(0, 1000000 - slot);
            }
            x.run(many);
            Play.loseAll(x);
            Check.dues(x, "voter 0 2 = " + many, "begin 1 1 2 = 3", "run 7 = 7");
            Play.tells(x, "ASKED 0>1", 1, 0, 0, many);
            Check.dues(x, "run 1 = 1", "leader 1 6 = " + many, "leader 1 7 = " + many);
            for (int slot = 0; slot < 16; slot++) {
                Check.due(x, "slot 1 " + slot + " 1", slot < many ? 1000000 - slot : -1);
            }
        }
    }

    /** "ASKING in that round": in another phase, and in a later round, it is nothing. */
    private static void askedThatIsNotWaitedFor() {
        Face x = new Real();
        Check.lead(x, 0, 0, 7);
        Check.dues(x, "propose 0 5 = 0");
        x.run(2000);
        Check.dues(x, "begin 1 1 8 = 3", "run 6 = 6");
        Play.come(x, "ASK 1>0", "ASK 1>1", "ASK 1>2");
        Play.twice(x, "ASKED 2>1");
        Play.twice(x, "ASKED 2>1");
        Play.come(x, "ASKED 0>1", "ASKED 1>1");
        Check.dues(x, "leader 1 0 = 3", "leader 1 13 = 3");
        Play.nothing(x, "ASKED 2>1");
        Check.due(x, "begin 1 4 8", 6);
        Play.nothing(x, "ASKED 2>1");
        Play.come(x, "MATCH 1>0", "MATCH 1>1", "MATCHED 0>1", "MATCHED 1>1");
        Check.due(x, "leader 1 0", 2);
        Play.nothing(x, "ASKED 2>1");
        Check.due(x, "leader 1 13", 0);
        idleAndAsked();
    }

    /** Leader 1 is refused while it asks; what voter 0 answered comes too late. */
    private static void idleAndAsked() {
        Face x = new Real();
        Check.lead(x, 0, 0, 3);
        Check.dues(x, "begin 1 1 8 = 3", "run 6 = 6");
        Play.come(x, "ASK 1>0");
        Check.due(x, "begin 2 2 4", 5);
        Play.come(x, "MATCH 2>0", "MATCH 2>1", "MATCHED 0>2", "MATCHED 1>2", "ASK 2>1", "ASK 1>1", "REFUSED 1>1");
        Check.due(x, "leader 1 0", 0);
        Play.nothing(x, "ASKED 0>1");
    }

    /** "When of each group of its HISTORY a majority is noted": of {0, 1, 2} and {2, 3}, where voter 2 is in both. */
    private static void majorityOfEachGroup() {
        String[][] orders = {{"2", "3", "0"}, {"3", "2", "1"}, {"0", "1", "2", "3"}, {"0", "3", "2"}};
        for (String[] order : orders) {
            Face x = new Real();
            Check.lead(x, 0, 0, 7);
            Check.lead(x, 1, 1, 12);
            Check.dues(x, "begin 2 2 1024 = 3", "run 6 = 6", "leader 2 5 = 2");
            for (String voter : order) {
                Check.due(x, "leader 2 0", 2);
                Play.come(x, "ASK 2>" + voter, "ASKED " + voter + ">2");
            }
            Check.due(x, "leader 2 0", 3);
        }
    }

    /** "the greatest number KNOWN": voter 0 knows 2, voter 1 knows 1, in whichever order they answer. */
    private static void greatestKnown() {
        for (int first = 0; first < 2; first++) {
            Face x = new Real();
            Check.lead(x, 0, 0, 7);
            Check.dues(x, "propose 0 5 = 0", "run 99 = 12", "collect 0 = true");
            Play.come(x, "KNOW 0>0", "KNOW 0>1");
            Play.loseAll(x);
            Check.dues(x, "propose 0 6 = 1", "run 99 = 12", "collect 0 = true");
            Play.come(x, "KNOW 0>0");
            Play.loseAll(x);
            Check.dues(x, "voter 0 1 = 2", "voter 1 1 = 1", "voter 2 1 = 0", "begin 1 1 8 = 3", "run 6 = 6");
            Play.come(x, "ASK 1>" + first, "ASK 1>" + (1 - first));
            Play.tells(x, "ASKED 0>1", 1, 2, 0, 2);
            Play.tells(x, "ASKED 1>1", 1, 1, 0, 2);
            Play.come(x, "ASKED " + first + ">1");
            Check.due(x, "leader 1 8", 0);
            Play.come(x, "ASKED " + (1 - first) + ">1");
            Check.dues(x, "leader 1 0 = 3", "leader 1 8 = 2", "leader 1 6 = 2", "slot 1 1 0 = 4");
        }
    }

    /** "for each slot the vote of the greatest round": 1000000 of round 0, 1 of round 1, in whichever order. */
    private static void voteOfTheGreatestRound() {
        for (int first = 0; first < 2; first++) {
            Face x = new Real();
            Check.lead(x, 0, 0, 7);
            Check.dues(x, "propose 0 1000000 = 0");
            Play.come(x, "VOTE 0>0");
            Play.loseAll(x);
            Check.dues(x, "begin 1 1 5 = 3", "run 6 = 6");
            Play.come(x, "ASK 1>1", "ASK 1>2", "ASKED 1>1", "ASKED 2>1");
            Check.dues(x, "leader 1 0 = 3", "leader 1 6 = 0", "propose 1 1 = 0", "propose 1 2 = 1");
            Play.come(x, "VOTE 1>2");
            Play.loseAll(x);
            Check.dues(x, "vote 0 0 false = 0", "vote 2 0 false = 1", "begin 2 2 1024 = 3", "run 6 = 6");
            int second = first == 0 ? 2 : 0;
            Play.come(x, "ASK 2>" + (first == 0 ? 0 : 2), "ASKED " + (first == 0 ? 0 : 2) + ">2", "ASK 2>" + second,
                    "ASKED " + second + ">2");
            Check.dues(x, "leader 2 0 = 3", "leader 2 6 = 1", "slot 2 0 1 = 1");
        }
    }

    /** "BASE is 1 more than the greatest slot with a vote noted, 0 without [..] 0 if it has none [..] NEXT is BASE." */
    private static void base() {
        Face x = new Real();
        Check.lead(x, 0, 0, 1);
        Check.lead(x, 1, 1, 2);
        Check.dues(x, "leader 1 6 = 0", "leader 1 7 = 0", "leader 1 8 = 0", "propose 1 3 = 0", "propose 1 4 = 1",
                "propose 1 5 = 2", "propose 1 6 = 3");
        Play.lose(x, "VOTE 1>1");
        Play.come(x, "VOTE 1>1");
        Play.lose(x, "VOTE 1>1");
        Play.come(x, "VOTE 1>1");
        Play.loseAll(x);
        Check.dues(x, "begin 2 2 68 = 3", "run 9 = 9");
        Play.come(x, "ASKED 1>2");
        Play.all(x, "leader 2", 3, 2, 68, 0, 7, 2, 4, 4, 0, 0, 0, 0, 0, 3);
        Play.air(x, "VOTE 2>2", "VOTE 2>6", "VOTE 2>2", "VOTE 2>6", "VOTE 2>2", "VOTE 2>6", "VOTE 2>2", "VOTE 2>6");
        int[] due = {0, 4, 0, 6};
        for (int slot = 0; slot < 4; slot++) {
            Check.dues(x, "message " + 2 * slot + " 4 = " + slot, "message " + 2 * slot + " 5 = " + due[slot],
                    "slot 2 " + slot + " 0 = 1", "slot 2 " + slot + " 1 = " + due[slot]);
        }
        Check.dues(x, "slot 2 4 0 = 0", "slot 2 4 1 = -1", "propose 2 9 = 4");
    }

    /** A vote for slot 15 makes BASE 16: then there is no slot to propose for. */
    private static void baseOfSixteen() {
        Face x = new Real();
        Check.lead(x, 0, 0, 1);
        for (int slot = 0; slot < 15; slot++) {
            x.propose(0, 1);
        }
        Play.loseAll(x);
        Check.dues(x, "propose 0 77 = 15", "run 1 = 1");
        Play.loseAll(x);
        Check.dues(x, "begin 1 1 2 = 3", "run 8 = 8", "leader 1 0 = 3", "leader 1 6 = 16", "leader 1 7 = 16",
                "propose 1 5 = -1", "count 0 = 16", "slot 1 14 1 = 0", "slot 1 15 1 = 77", "collect 1 = false");
        Check.dues(x, "run 2000 = 128", "leader 1 9 = 16", "agreed 14 = 0", "agreed 15 = 77", "collect 1 = true");
        Play.tells(x, "KNOW 1>1", 1, 16);
        Check.dues(x, "run 2000 = 10", "voter 1 1 = 16", "begin 2 2 4 = 3", "run 2000 = 8");
        Play.all(x, "leader 2", 3, 2, 4, 0, 7, 1, 16, 16, 16, 16, 0, 0, 0, 2);
        Check.dues(x, "propose 2 5 = -1", "slot 2 0 0 = 4", "slot 2 15 0 = 4", "slot 2 15 1 = -1", "collect 2 = true");
        Play.tells(x, "KNOW 2>2", 2, 16);
    }

    /** "but not less than the number KNOWN. Slots below KNOWN are SETTLED for it": 2 known, votes up to slot 2. */
    private static void settledSlots() {
        Face x = new Real();
        Check.lead(x, 0, 0, 1);
        Check.dues(x, "propose 0 5 = 0", "propose 0 6 = 1", "run 99 = 16", "collect 0 = true", "run 99 = 8",
                "propose 0 7 = 2", "run 1 = 1");
        Play.loseAll(x);
        Check.dues(x, "begin 1 1 2 = 3", "run 8 = 8");
        Play.all(x, "leader 1", 3, 1, 2, 0, 7, 1, 3, 3, 2, 2, 0, 0, 0, 1);
        Play.air(x, "VOTE 1>1");
        Play.tells(x, "VOTE 1>1", 1, 2, 7);
        Play.all(x, "slot 1 0", 4, -1, 0, 0);
        Play.all(x, "slot 1 1", 4, -1, 0, 0);
        Play.all(x, "slot 1 2", 1, 7, 0, 0);
        Play.all(x, "slot 1 3", 0, -1, 0, 0);
        Check.dues(x, "run 99 = 8", "collect 1 = true", "run 99 = 10", "voter 0 2 = 0", "voter 0 1 = 2", "voter 1 1 = 3",
                "voter 1 2 = 1", "begin 2 2 4 = 3", "run 99 = 8");
        Play.all(x, "leader 2", 3, 2, 4, 0, 7, 1, 3, 3, 3, 3, 0, 0, 0, 2);
        Check.due(x, "count 0", 0);
        knownWithoutVotes(x);
    }

    /** The same; voter 2 gets to know of the 3 slots and has no vote: BASE is 3 then, for the number KNOWN alone. */
    private static void knownWithoutVotes(Face x) {
        Check.dues(x, "collect 2 = true", "run 99 = 10");
        Play.all(x, "voter 2", 2, 3, 0);
        Check.dues(x, "begin 0 3 8 = 3", "run 99 = 8");
        Play.all(x, "leader 0", 3, 3, 8, 0, 7, 1, 3, 3, 3, 3, 0, 0, 0, 4);
        Check.dues(x, "slot 0 2 0 = 4", "slot 0 3 0 = 0", "propose 0 9 = 3", "run 99 = 8", "leader 0 9 = 4");
        Check.lead(x, 1, 4, 16);
        Play.all(x, "leader 1", 3, 4, 16, 0, 7, 2, 4, 4, 3, 4, 0, 0, 0, 12);
    }

    /** Voter 0 KNOWS 2 slots and has a vote for slot 0 alone, of round 0: BASE is 2, and slot 0 is not proposed again. */
    private static void knownAboveAVote() {
        Face x = new Real();
        Check.lead(x, 0, 0, 7);
        Check.dues(x, "propose 0 5 = 0", "propose 0 6 = 1");
        Play.come(x, "VOTE 0>0");
        Play.lose(x, "VOTE 0>0");
        x.run(2000);
        Check.dues(x, "voter 0 2 = 1", "leader 0 9 = 2");
        Check.lead(x, 1, 1, 8);
        Check.dues(x, "collect 1 = true", "run 8 = 8");
        Play.loseAll(x);
        Check.lead(x, 2, 2, 1);
        Check.dues(x, "leader 2 8 = 2", "collect 2 = true", "run 99 = 10");
        Play.all(x, "voter 0", 2, 2, 1);
        Check.dues(x, "vote 0 0 false = 0", "begin 0 3 16 = 3", "run 99 = 8");
        Play.all(x, "leader 0", 3, 3, 16, 0, 7, 1, 2, 2, 2, 2, 0, 0, 0, 1);
        Check.dues(x, "slot 0 0 0 = 4", "slot 0 1 0 = 4", "propose 0 9 = 2");
    }

    /** "VOTE [..] The round is below what it PROMISED: REFUSED [..] Else it is PROMISED": below, the same, above. */
    private static void voteBelowPromised() {
        Face x = new Real();
        Check.lead(x, 1, 1, 1);
        Check.dues(x, "voter 0 0 = -1", "propose 1 5 = 0");
        Play.twice(x, "VOTE 1>0");
        Play.twice(x, "VOTE 1>0");
        Play.come(x, "VOTE 1>0");
        Check.dues(x, "voter 0 0 = 1", "vote 0 0 true = 5");
        Play.come(x, "VOTE 1>0");
        Play.lose(x, "VOTED 0>1");
        Play.tells(x, "VOTED 0>1", 1, 0);
        Play.lose(x, "VOTED 0>1");
        Check.due(x, "begin 2 5 1", 4);
        Play.come(x, "MATCH 2>0", "MATCH 2>1", "MATCHED 0>2", "MATCHED 1>2", "ASK 2>0", "VOTE 1>0");
        Play.tells(x, "REFUSED 0>1", 1, 5);
        Play.lose(x, "REFUSED 0>1");
        Check.dues(x, "voter 0 0 = 5", "vote 0 0 false = 1", "propose 1 6 = 1");
        Play.come(x, "VOTE 1>0");
        Play.tells(x, "REFUSED 0>1", 1, 5);
        Check.dues(x, "voter 0 0 = 5", "vote 0 1 true = -1", "voter 0 2 = 1", "agreed 1 = -1");
    }

    /** "that is its vote for the slot": one of a later round stands for the earlier one. */
    private static void laterVoteIsItsVote() {
        Face x = new Real();
        Check.lead(x, 0, 0, 3);
        Check.dues(x, "propose 0 9 = 0");
        Play.come(x, "VOTE 0>0");
        Play.loseAll(x);
        Check.dues(x, "vote 0 0 false = 0", "begin 1 1 3 = 3", "run 6 = 6");
        Play.come(x, "ASK 1>0", "ASK 1>1", "ASKED 0>1", "ASKED 1>1", "VOTE 1>0");
        Check.dues(x, "vote 0 0 false = 1", "vote 0 0 true = 9", "voter 0 2 = 1", "agreed 0 = -1", "vote 1 0 true = -1");
    }

    /** "LEADING in that round: it notes the voter for the slot": in another phase or round it is nothing. */
    private static void votedThatIsNotWaitedFor() {
        Face x = new Real();
        Check.lead(x, 0, 0, 1);
        Check.dues(x, "propose 0 9 = 0");
        Play.come(x, "VOTE 0>0");
        Play.twice(x, "VOTED 0>0");
        Play.twice(x, "VOTED 0>0");
        Check.due(x, "begin 0 3 1", 6);
        Play.nothing(x, "VOTED 0>0");
        Play.come(x, "MATCH 0>0", "MATCH 0>1", "MATCHED 0>0", "MATCHED 1>0");
        Check.due(x, "leader 0 0", 2);
        Play.nothing(x, "VOTED 0>0");
        Play.come(x, "ASK 0>0", "ASKED 0>0");
        Check.dues(x, "leader 0 0 = 3", "slot 0 0 0 = 1");
        Play.nothing(x, "VOTED 0>0");
        Check.dues(x, "slot 0 0 2 = 0");
    }

    /** "When first a majority of its group is noted, the slot is CHOSEN for it: TELL to all copies": once. */
    private static void firstMajority() {
        Face x = new Real();
        Check.lead(x, 0, 0, 7);
        Check.dues(x, "propose 0 9 = 0");
        Play.come(x, "VOTE 0>0", "VOTE 0>1", "VOTE 0>2");
        Play.twice(x, "VOTED 0>0");
        Play.come(x, "VOTED 0>0", "VOTED 0>0");
        Play.all(x, "slot 0 0", 1, 9, 1, 0);
        Play.come(x, "VOTED 2>0");
        Play.all(x, "slot 0 0", 2, 9, 5, 0);
        Play.air(x, "VOTED 1>0", "TELL 0>0", "TELL 0>1", "TELL 0>2");
        Play.come(x, "VOTED 1>0");
        Play.all(x, "slot 0 0", 2, 9, 7, 0);
        Play.air(x, "TELL 0>0", "TELL 0>1", "TELL 0>2");
    }

    /** "it has that value for the slot, if it has none; TOLD, with the value that it has": 0 is a value, too. */
    private static void copyKeepsItsValue() {
        Face x = new Real();
        Check.lead(x, 0, 0, 1);
        Check.dues(x, "propose 0 9 = 0", "propose 0 8 = 1", "lose 0 = 5", "run 1 = 1");
        Play.loseAll(x);
        Check.dues(x, "begin 1 1 2 = 3", "run 8 = 8", "run 4 = 4");
        Play.air(x, "TELL 1>0", "TELL 1>1", "TELL 1>2", "TELL 1>0", "TELL 1>1", "TELL 1>2");
        Play.twice(x, "TELL 1>0");
        Play.tells(x, "TELL 1>0", 0, 0);
        Play.come(x, "TELL 1>0");
        Check.dues(x, "copy 0 0 = 0", "copy 1 0 = -1", "copy 0 1 = -1");
        Play.tells(x, "TOLD 0>1", 0, 0);
        Play.come(x, "TELL 1>0", "TELL 1>0");
        Check.dues(x, "copy 0 0 = 0", "copy 0 1 = 8", "count 3 = 0");
    }

    /** "LEADING, the slot being CHOSEN for it": not in another phase, not while it is only PROPOSED. */
    private static void toldThatIsNotWaitedFor() {
        Face x = new Real();
        Check.lead(x, 0, 0, 1);
        Check.dues(x, "propose 0 9 = 0", "run 3 = 3");
        Play.twice(x, "TOLD 0>0");
        Play.twice(x, "TOLD 0>0");
        Play.twice(x, "TOLD 0>0");
        Check.due(x, "begin 0 3 1", 9);
        Play.nothing(x, "TOLD 0>0");
        Play.come(x, "MATCH 0>0", "MATCH 0>1", "MATCHED 0>0", "MATCHED 1>0");
        Play.nothing(x, "TOLD 0>0");
        Play.come(x, "ASK 0>0", "ASKED 0>0");
        Play.all(x, "slot 0 0", 1, 9, 0, 0);
        Play.nothing(x, "TOLD 0>0");
        Play.come(x, "VOTE 0>0", "VOTED 0>0", "TOLD 0>0");
        Play.all(x, "slot 0 0", 2, 9, 1, 1);
        toldWhenIdleOrSettled();
    }

    private static void toldWhenIdleOrSettled() {
        Face x = new Real();
        Check.lead(x, 0, 0, 1);
        Check.dues(x, "propose 0 9 = 0", "run 5 = 5");
        Play.twice(x, "TOLD 2>0");
        Play.come(x, "TOLD 0>0", "TOLD 1>0");
        Check.dues(x, "slot 0 0 0 = 3", "collect 0 = true");
        Play.come(x, "KNOW 0>0");
        Check.due(x, "begin 0 3 1", 6);
        Play.come(x, "MATCH 0>0", "MATCH 0>1", "MATCHED 0>0", "MATCHED 1>0", "ASK 0>0", "ASKED 0>0");
        Play.all(x, "slot 0 0", 4, -1, 0, 0);
        Play.nothing(x, "TOLD 2>0");
        Play.loseAll(x);
        Face y = new Real();
        Check.lead(y, 0, 0, 1);
        Check.dues(y, "propose 0 9 = 0", "run 5 = 5", "propose 0 8 = 1", "begin 1 1 1 = 7");
        Play.come(y, "MATCH 1>0", "MATCH 1>1", "MATCHED 0>1", "MATCHED 1>1", "ASK 1>0", "VOTE 0>0", "REFUSED 0>0");
        Check.due(y, "leader 0 0", 0);
        Play.nothing(y, "TOLD 0>0");
    }

    /**
     * "With two copies noted the slot is STORED for it", and 5 AGAIN's "CHOSEN, and not STORED": so what is STORED is
     * CHOSEN as well, and the third copy is noted.
     */
    private static void twoCopies() {
        Face x = new Real();
        Check.lead(x, 0, 0, 1);
        Check.dues(x, "propose 0 9 = 0", "run 5 = 5");
        Play.twice(x, "TOLD 1>0");
        Play.come(x, "TOLD 1>0", "TOLD 1>0");
        Play.all(x, "slot 0 0", 2, 9, 1, 2);
        Check.dues(x, "leader 0 9 = 0", "again 0 = 2");
        Play.come(x, "TOLD 2>0");
        Play.all(x, "slot 0 0", 3, 9, 1, 6);
        Check.dues(x, "leader 0 9 = 1", "again 0 = 0");
        Play.come(x, "TOLD 0>0");
        Play.all(x, "slot 0 0", 3, 9, 1, 7);
        Check.dues(x, "leader 0 9 = 1", "again 0 = 0");
    }

    /** "Its ROUND is that: IDLE": NO and REFUSED of an earlier round are nothing. */
    private static void noOfAnotherRound() {
        Face x = new Real();
        Check.lead(x, 1, 1, 1);
        Check.dues(x, "begin 0 0 1 = 3", "run 3 = 3");
        Play.air(x, "NO 0>0", "NO 1>0", "NO 2>0");
        Check.due(x, "begin 0 3 1", 6);
        Play.nothing(x, "NO 0>0");
        Check.due(x, "leader 0 0", 1);
        Play.come(x, "MATCH 0>0", "MATCH 0>1", "MATCHED 0>0", "MATCHED 1>0");
        Play.nothing(x, "NO 1>0");
        Play.come(x, "ASK 0>0", "ASKED 0>0");
        Play.nothing(x, "NO 2>0");
        Check.dues(x, "leader 0 0 = 3", "propose 1 7 = 0", "voter 0 0 = 3");
        Play.come(x, "VOTE 1>0");
        Play.loseAllBut(x, "REFUSED 0>1");
        Check.due(x, "begin 1 4 1", 4);
        Play.nothing(x, "REFUSED 0>1");
        Check.due(x, "leader 1 0", 1);
    }

    /** "IDLE (what it noted stays as it is)": while MATCHING, while ASKING and while LEADING. */
    private static void idleKeepsWhatItNoted() {
        Face x = new Real();
        Check.lead(x, 0, 0, 3);
        Check.dues(x, "begin 1 1 12 = 3");
        Play.come(x, "MATCH 1>0", "MATCHED 0>1");
        Check.due(x, "begin 2 2 1", 5);
        Play.come(x, "MATCH 2>1", "MATCH 1>1", "NO 1>1");
        Play.all(x, "leader 1", 0, 1, 12, 0, 7, 1, 0, 0, 0, 0, 0, 0, 0, 0);
        Check.dues(x, "again 1 = 0", "propose 1 3 = -1", "collect 1 = false");
        Face y = new Real();
        Check.lead(y, 0, 0, 3);
        Check.dues(y, "begin 1 1 12 = 3", "run 6 = 6");
        Play.come(y, "ASK 1>0", "ASKED 0>1");
        Check.due(y, "begin 2 2 1", 4);
        Play.come(y, "MATCH 2>0", "MATCH 2>1", "MATCHED 0>2", "MATCHED 1>2", "ASK 2>1", "ASK 1>1", "REFUSED 1>1");
        Play.all(y, "leader 1", 0, 1, 12, 0, 7, 1, 0, 0, 0, 0, 0, 0, 0, 1);
        Check.due(y, "again 1", 0);
        idleKeepsSlotsAndStage();
    }

    private static void idleKeepsSlotsAndStage() {
        Face x = new Real();
        Check.lead(x, 0, 0, 1);
        Check.dues(x, "propose 0 5 = 0", "run 99 = 8", "collect 0 = true", "propose 0 6 = 1", "begin 1 1 1 = 5");
        Play.come(x, "MATCH 1>0", "MATCH 1>1", "MATCHED 0>1", "MATCHED 1>1", "ASK 1>0", "KNOW 0>0");
        Play.all(x, "leader 0", 3, 0, 1, 0, 7, 0, 0, 2, 0, 1, 1, 0, 0, 0);
        Play.come(x, "REFUSED 0>0");
        Play.all(x, "leader 0", 0, 0, 1, 0, 7, 0, 0, 0, 0, 0, 1, 0, 0, 0);
        Play.all(x, "slot 0 0", 0, 5, 1, 7);
        Play.all(x, "slot 0 1", 0, 6, 0, 0);
        Play.all(x, "slot 0 2", 0, -1, 0, 0);
        Check.dues(x, "again 0 = 0", "reform 0 0 56 = 6", "again 0 = 3");
    }
}
