/** The document's edges, sentence by sentence: 6 WHAT IS TRUE. */
public final class EdgeTruthTest {
    public static void main(String[] args) {
        votesOfOneRound();
        eachAtSomeTime();
        theGroupOfThatRound();
        theFirstStays();
        eachSlotForItself();
        oneVoterOnce();
        agreedBeforeAnyoneKnows();
        noBreachAndNoClash();
        aBreach();
        aClash();
        theFirstAgainBesideAnother();
        Check.end();
    }

    /** "in some round a majority": two voters of three, but in two rounds, are none. */
    private static void votesOfOneRound() {
        Face x = new Real();
        Check.lead(x, 0, 0, 7);
        Check.due(x, "propose 0 9", 0);
        Play.come(x, "VOTE 0>0");
        Play.loseAll(x);
        Check.dues(x, "begin 1 1 7 = 3", "run 6 = 6");
        Play.come(x, "ASK 1>0", "ASK 1>1", "ASKED 0>1", "ASKED 1>1");
        Check.dues(x, "leader 1 0 = 3", "slot 1 0 1 = 9");
        Play.come(x, "VOTE 1>1");
        Check.dues(x, "vote 0 0 true = 9", "vote 1 0 true = 9", "agreed 0 = -1");
        Play.come(x, "VOTE 1>2");
        Check.due(x, "agreed 0", 9);
    }

    /** "has voted for it, each at some time": voter 0's vote of round 0 was let go before voter 1 votes in round 0. */
    private static void eachAtSomeTime() {
        Face x = new Real();
        Check.lead(x, 0, 0, 7);
        Check.due(x, "propose 0 9", 0);
        Play.come(x, "VOTE 0>0");
        Check.due(x, "begin 1 1 1024", 6);
        Play.come(x, "MATCH 1>0", "MATCH 1>1", "MATCHED 0>1", "MATCHED 1>1", "ASK 1>0", "ASK 1>2", "ASKED 0>1", "ASKED 2>1");
        Check.dues(x, "leader 1 0 = 3", "slot 1 0 1 = 9");
        Play.come(x, "VOTE 1>10", "VOTED 10>1", "TELL 1>0", "TELL 1>1", "TOLD 0>1", "TOLD 1>1");
        Check.dues(x, "agreed 0 = 9", "collect 1 = true");
        Play.come(x, "KNOW 1>10", "KNOWN 10>1", "COLLECT 1>0", "COLLECT 1>1", "COLLECTED 0>1", "COLLECTED 1>1",
                "RELEASE 1>0");
        Check.dues(x, "voter 0 2 = 0", "vote 0 0 true = -1", "agreed 0 = 9");
        Play.come(x, "VOTE 0>1");
        Check.dues(x, "vote 1 0 false = 0", "agreed 0 = 9", "count 4 = 0");
        replacedByALaterVote();
    }

    /** Voter 0 votes in round 0, then in round 1, which is of another group; then voter 1 votes in round 0. */
    private static void replacedByALaterVote() {
        Face x = new Real();
        Check.lead(x, 0, 0, 7);
        Check.due(x, "propose 0 9", 0);
        Play.come(x, "VOTE 0>0");
        Check.due(x, "begin 1 1 49", 6);
        Play.come(x, "MATCH 1>0", "MATCH 1>1", "MATCHED 0>1", "MATCHED 1>1", "ASK 1>0", "ASK 1>2", "ASKED 0>1", "ASKED 2>1",
                "VOTE 1>0");
        Check.dues(x, "vote 0 0 false = 1", "agreed 0 = -1");
        Play.come(x, "VOTE 0>1");
        Check.dues(x, "agreed 0 = 9", "vote 0 0 false = 1", "vote 1 0 false = 0");
    }

    /** "of that round's group (with which it was begun)": also when the leader has begun another round meanwhile. */
    private static void theGroupOfThatRound() {
        Face x = new Real();
        Check.lead(x, 0, 0, 7);
        Check.due(x, "propose 0 9", 0);
        Check.due(x, "begin 0 3 31", 6);
        Play.come(x, "VOTE 0>0");
        Check.due(x, "agreed 0", -1);
        Play.come(x, "VOTE 0>1");
        Check.dues(x, "agreed 0 = 9", "leader 0 2 = 31");
        Face y = new Real();
        Check.lead(y, 0, 0, 31);
        Check.due(y, "propose 0 9", 0);
        Check.due(y, "begin 0 3 1", 8);
        Play.come(y, "VOTE 0>0", "VOTE 0>4");
        Check.due(y, "agreed 0", -1);
        Play.come(y, "VOTE 0>3");
        Check.due(y, "agreed 0", 9);
    }

    /** "The value AGREED first": round 1 agrees on the same once more, which is no BREACH. */
    private static void theFirstStays() {
        Face x = new Real();
        Check.lead(x, 0, 0, 1);
        Check.dues(x, "propose 0 9 = 0", "run 99 = 8", "agreed 0 = 9");
        Check.lead(x, 1, 1, 2);
        Check.dues(x, "vote 1 0 true = 9", "agreed 0 = 9", "count 4 = 0", "count 3 = 0");
    }

    /**
     * The voters 7 and 8 of five vote for all slots, voter 11 slot by slot: each slot is AGREED when its own third vote
     * comes.
     */
    private static void eachSlotForItself() {
        Face x = new Real();
        Check.lead(x, 2, 299, 3968);
        for (int slot = 0; slot < 16; slot++) {
            x.propose(2, 500 + slot);
        }
        for (int slot = 0; slot < 16; slot++) {
            Play.come(x, "VOTE 2>7", "VOTE 2>8");
        }
        for (int slot = 0; slot < 16; slot++) {
            Check.due(x, "agreed " + slot, -1);
        }
        for (int done = 0; done < 16; done++) {
            Play.come(x, "VOTE 2>11");
            for (int slot = 0; slot < 16; slot++) {
                Check.due(x, "agreed " + slot, slot <= done ? 500 + slot : -1);
            }
        }
        Check.due(x, "count 4", 0);
    }

    /** A voter that votes twice is one. */
    private static void oneVoterOnce() {
        Face x = new Real();
        Check.lead(x, 0, 0, 3);
        Check.due(x, "propose 0 9", 0);
        Play.twice(x, "VOTE 0>1");
        Play.twice(x, "VOTE 0>1");
        Play.come(x, "VOTE 0>1", "VOTE 0>1", "VOTE 0>1");
        Check.due(x, "agreed 0", -1);
        Play.come(x, "VOTE 0>0");
        Check.due(x, "agreed 0", 9);
    }

    /** It is AGREED with the votes, not with what the leader hears of them; a vote that is refused is none. */
    private static void agreedBeforeAnyoneKnows() {
        Face x = new Real();
        Check.lead(x, 0, 0, 3);
        Check.dues(x, "propose 0 9 = 0", "up 0 0 false = true");
        Play.come(x, "VOTE 0>0", "VOTE 0>1");
        Check.dues(x, "agreed 0 = 9", "slot 0 0 0 = 1", "run 9 = 2", "slot 0 0 0 = 1", "agreed 0 = 9");
        Face y = new Real();
        Check.lead(y, 0, 0, 1);
        Check.dues(y, "propose 0 9 = 0", "begin 1 1 1 = 4");
        Play.come(y, "MATCH 1>0", "MATCH 1>1", "MATCHED 0>1", "MATCHED 1>1", "ASK 1>0", "VOTE 0>0");
        Check.dues(y, "agreed 0 = -1", "voter 0 2 = 0");
        Face z = new Real();
        Check.lead(z, 0, 0, 1);
        Check.dues(z, "propose 0 9 = 0", "up 2 0 false = true", "run 9 = 1", "agreed 0 = -1", "voter 0 2 = 0");
    }

    /**
     * "(There is none; no CLASH either.)": leader 0 has one vote of three for 5, leader 1 hears of none and gets 6
     * agreed; what leader 0 sent and sends again is refused, and leader 2 finds 6. (For where there is one: aBreach.)
     */
    private static void noBreachAndNoClash() {
        Face x = new Real();
        Check.lead(x, 0, 0, 7);
        Check.due(x, "propose 0 5", 0);
        Play.come(x, "VOTE 0>0");
        Check.due(x, "begin 1 1 7", 6);
        Play.come(x, "MATCH 1>0", "MATCH 1>1", "MATCHED 0>1", "MATCHED 1>1", "ASK 1>1", "ASK 1>2", "ASKED 1>1", "ASKED 2>1");
        Check.dues(x, "leader 1 0 = 3", "leader 1 6 = 0", "propose 1 6 = 0");
        Play.come(x, "VOTE 1>1", "VOTE 0>1", "VOTE 0>2");
        Check.dues(x, "again 0 = 3", "agreed 0 = -1");
        Play.come(x, "VOTE 1>2");
        Check.due(x, "agreed 0", 6);
        x.run(2000);
        Check.dues(x, "leader 0 0 = 0", "agreed 0 = 6", "copy 0 0 = 6", "copy 1 0 = 6", "copy 2 0 = 6", "vote 0 0 true = 6");
        Check.lead(x, 2, 2, 56);
        Check.dues(x, "slot 2 0 1 = 6", "agreed 0 = 6", "count 3 = 0", "count 4 = 0");
    }

    /**
     * Leader 0 leads in round 3 with voter 0, leader 2 in round 2 with voter 1, and neither asked the other's voter.
     *
     * <p>Of 0, 1, 2 only keeper 1 has the entry of round 2, only the keepers 0 and 2 that of round 3. The keepers 3, 4, 5
     * are seeded with both (kind 17: "with all entries noted"). So MATCH of round 2 finds its own entry there: it is
     * neither one "with another group" nor "has none", and though there is an entry of round 3 the answer is MATCHED,
     * "with its entries of lower rounds" alone.
     */
    private static Face twoThatLeadApart() {
        Face x = new Real();
        Check.dues(x, "begin 2 2 2 = 3", "begin 0 3 1 = 6");
        Play.come(x, "MATCH 2>1", "MATCH 0>0", "MATCH 0>2", "MATCHED 0>0", "MATCHED 2>0");
        Play.loseAll(x);
        Check.dues(x, "leader 0 0 = 3", "leader 0 5 = 0", "leader 2 0 = 1");
        Check.dues(x, "reform 2 2 56 = 3", "run 300 = 24", "leader 2 3 = 1", "leader 2 0 = 1");
        Check.dues(x, "keeper 3 0 = 2", "keeper 3 3 = 2", "entry 3 0 false = 2", "entry 3 1 false = 3");
        Check.due(x, "again 2", 3);
        Play.come(x, "MATCH 2>3", "MATCH 2>4");
        Play.tells(x, "MATCHED 3>2", 1, 2, 0, 0);
        Play.come(x, "MATCHED 3>2", "MATCHED 4>2");
        Play.loseAll(x);
        Check.dues(x, "leader 2 0 = 3", "leader 2 5 = 0", "keeper 3 3 = 2", "count 3 = 0", "count 4 = 0");
        return x;
    }

    /**
     * "BREACHES: how often a value was AGREED for a slot that has another one AGREED." The brackets behind it say that
     * there is none, but the words of the kinds bring this one about; it is counted as the sentence says.
     */
    private static void aBreach() {
        Face x = twoThatLeadApart();
        Check.dues(x, "propose 2 6 = 0", "propose 0 7 = 0", "propose 0 8 = 1");
        Play.come(x, "VOTE 2>1");
        Check.dues(x, "agreed 0 = 6", "count 4 = 0");
        Play.come(x, "VOTE 0>0");
        Check.dues(x, "agreed 0 = 6", "count 4 = 1", "vote 0 0 true = 7");
        Check.due(x, "again 0", 2);
        Play.come(x, "VOTE 0>0", "VOTE 0>0");
        Check.dues(x, "agreed 0 = 6", "agreed 1 = 8", "count 4 = 1", "count 3 = 0");
        x.clear();
        Check.lead(x, 0, 0, 1);
        Check.dues(x, "propose 0 7 = 0", "run 9 = 8", "agreed 0 = 7", "count 4 = 0");
        Check.lead(x, 1, 1, 2);
        Check.dues(x, "vote 1 0 true = 7", "count 4 = 0");
        Face y = twoThatLeadApart();
        Check.dues(y, "propose 2 6 = 0", "propose 0 6 = 0");
        Play.come(y, "VOTE 2>1", "VOTE 0>0");
        Check.dues(y, "agreed 0 = 6", "count 4 = 0");
    }

    /**
     * "it has that value for the slot, if it has none; TOLD, with the value that it has. If that is another one: a
     * CLASH." And of TOLD: "the slot being CHOSEN for it, with that value".
     */
    private static void aClash() {
        Face x = twoThatLeadApart();
        Check.dues(x, "propose 2 6 = 0", "propose 0 7 = 0");
        Play.come(x, "VOTE 2>1", "VOTED 1>2", "VOTE 0>0", "VOTED 0>0", "TELL 2>0", "TELL 2>1", "TELL 0>2");
        Check.dues(x, "copy 0 0 = 6", "copy 1 0 = 6", "copy 2 0 = 7", "count 3 = 0");
        Play.come(x, "TELL 0>0");
        Check.dues(x, "copy 0 0 = 6", "count 3 = 1");
        Play.tells(x, "TOLD 0>0", 0, 6, 0, 0);
        Play.nothing(x, "TOLD 0>0");
        Check.dues(x, "slot 0 0 0 = 2", "slot 0 0 3 = 0");
        Play.come(x, "TOLD 2>0");
        Check.dues(x, "slot 0 0 3 = 4", "slot 0 0 0 = 2", "again 0 = 2");
        Play.come(x, "TELL 0>0", "TELL 0>1");
        Check.dues(x, "count 3 = 3", "copy 0 0 = 6", "copy 1 0 = 6");
        Play.come(x, "TOLD 0>2", "TOLD 1>2", "TELL 2>2");
        Check.dues(x, "slot 2 0 0 = 3", "slot 2 0 3 = 3", "count 3 = 4", "copy 2 0 = 7", "count 4 = 1");
        x.clear();
        Check.due(x, "count 3", 0);
    }

    /** "a slot that has another one AGREED": so has it also when the first value is AGREED once more, in a third round. */
    private static void theFirstAgainBesideAnother() {
        Face x = new Real();
        Check.dues(x, "begin 1 1 4 = 3", "begin 2 2 2 = 6", "begin 0 3 1 = 9");
        Play.come(x, "MATCH 1>1", "MATCH 2>1", "MATCH 0>0", "MATCH 0>2", "MATCHED 0>0", "MATCHED 2>0");
        Play.loseAll(x);
        Check.dues(x, "reform 2 2 56 = 3", "run 300 = 24", "keeper 4 3 = 3");
        Check.dues(x, "again 1 = 3", "run 6 = 6", "leader 1 3 = 1", "again 1 = 3", "run 6 = 6", "leader 1 0 = 3");
        Check.dues(x, "propose 1 6 = 0", "propose 0 7 = 0");
        Play.come(x, "VOTE 1>2", "VOTE 0>0");
        Play.loseAll(x);
        Check.dues(x, "agreed 0 = 6", "count 4 = 1", "again 2 = 3", "run 8 = 8", "leader 2 0 = 3", "slot 2 0 1 = 6");
        Play.come(x, "VOTE 2>1");
        Check.dues(x, "agreed 0 = 6", "count 4 = 2");
    }
}
