import java.util.Arrays;

/**
 * A service that agrees on values for slots, whoever fails: leaders begin rounds, each with a group of
 * voters of its own; keepers remember which groups there were; what was agreed is copied; groups that
 * are needed no more are let go; and the keepers are exchanged for others.
 *
 * <p>Groups, sets and whoever is noted are bits: node k is bit k. All rows are made with the object and
 * used again, so that no later call makes anything.
 */
public final class RoundKeepers {
    public static final int NONE = -1;

    private static final int LEADERS = 3;
    private static final int KEEPERS = 9;
    private static final int VOTERS = 12;
    private static final int COPIES = 3;
    private static final int SORTS = 4;
    private static final int SLOTS = 16;
    private static final int ROUNDS = 300;
    private static final int MAX_VALUE = 1000000;
    private static final int MAX_GROUP = 5;
    private static final int SET_SIZE = 3;
    private static final int FIRST_SET = 7;
    private static final int ALL_COPIES = 7;
    private static final int MAX_ENTRIES = 12;
    private static final int MAX_AIR = 400;
    private static final int MAX_RUN = 2000;

    private static final int LEADER = 0;
    private static final int KEEPER = 1;
    private static final int VOTER = 2;
    private static final int COPY = 3;

    private static final int MATCH = 1;
    private static final int MATCHED = 2;
    private static final int ASK = 3;
    private static final int ASKED = 4;
    private static final int VOTE = 5;
    private static final int VOTED = 6;
    private static final int TELL = 7;
    private static final int TOLD = 8;
    private static final int KNOW = 9;
    private static final int KNOWN = 10;
    private static final int COLLECT = 11;
    private static final int COLLECTED = 12;
    private static final int RELEASE = 13;
    private static final int RELEASED = 14;
    private static final int NO = 15;
    private static final int STOP = 16;
    private static final int STOPPED = 17;
    private static final int SEED = 18;
    private static final int SEEDED = 19;
    private static final int PICK = 20;
    private static final int PICKED = 21;
    private static final int MOVED = 22;
    private static final int GONE = 23;
    private static final int REFUSED = 24;

    private static final int MESSAGE_WHATS = 9;
    private static final int LEADER_WHATS = 14;
    private static final int SLOT_WHATS = 4;
    private static final int KEEPER_WHATS = 8;
    private static final int VOTER_WHATS = 3;
    private static final int COUNT_WHATS = 6;

    private final Air air;
    /** A round is begun at most once, so its group is kept once, for all who note that round. */
    private final int[] groups;
    private final Tally tally;
    private final Leader[] leaders;
    private final Keeper[] keepers;
    private final Voter[] voters;
    private final Copies copies;
    private final int[] upBits;
    private int arrived;
    private int begun;

    public RoundKeepers() {
        air = new Air();
        groups = new int[ROUNDS];
        tally = new Tally(groups);
        copies = new Copies(air);
        upBits = new int[SORTS];
        leaders = new Leader[LEADERS];
        for (int i = 0; i < LEADERS; i++) {
            leaders[i] = new Leader(i, air, groups);
        }
        keepers = new Keeper[KEEPERS];
        for (int i = 0; i < KEEPERS; i++) {
            keepers[i] = new Keeper(i, air, groups);
        }
        voters = new Voter[VOTERS];
        for (int i = 0; i < VOTERS; i++) {
            voters[i] = new Voter(i, air, tally);
        }
        resetAll();
    }

    public int begin(int leader, int round, int group)
            throws IndexOutOfBoundsException, IllegalArgumentException, IllegalStateException {
        Leader who = leaderAt(leader);
        if (!isRoundOf(leader, round) || round <= who.round || !isGroup(group)) {
            throw new IllegalArgumentException("the round is not the leader's next, or that is no group");
        }
        requireUp(leader);
        groups[round] = group;
        begun++;
        who.beginRound(round, group);
        return air.size;
    }

    public int propose(int leader, int value)
            throws IndexOutOfBoundsException, IllegalArgumentException, IllegalStateException {
        Leader who = leaderAt(leader);
        if (value < 1 || value > MAX_VALUE) {
            throw new IllegalArgumentException("the value is not 1 .. 1000000");
        }
        requireUp(leader);
        return who.proposeNext(value);
    }

    public boolean collect(int leader) throws IndexOutOfBoundsException, IllegalStateException {
        Leader who = leaderAt(leader);
        requireUp(leader);
        return who.startCollecting();
    }

    public int reform(int leader, int ballot, int set)
            throws IndexOutOfBoundsException, IllegalArgumentException, IllegalStateException {
        Leader who = leaderAt(leader);
        if (!isRoundOf(leader, ballot) || ballot <= who.keeping.ballot || !isSet(set)) {
            throw new IllegalArgumentException("the ballot is not the leader's next, or that is no set");
        }
        requireUp(leader);
        who.keeping.startReform(ballot, set);
        return air.size;
    }

    public int again(int leader) throws IndexOutOfBoundsException, IllegalStateException {
        Leader who = leaderAt(leader);
        requireUp(leader);
        int before = air.sent;
        who.sendAgain();
        return air.sent - before;
    }

    public int deliver(int k) throws IndexOutOfBoundsException {
        requireIndex(k, air.size);
        Message taken = air.take(k);
        bring(taken);
        return taken.kind;
    }

    public int run(int n) throws IllegalArgumentException {
        if (n < 0 || n > MAX_RUN) {
            throw new IllegalArgumentException("the number is not 0 .. 2000");
        }
        int times = 0;
        while (times < n && air.size > 0) {
            bring(air.take(0));
            times++;
        }
        return times;
    }

    public int lose(int k) throws IndexOutOfBoundsException {
        requireIndex(k, air.size);
        return air.take(k).kind;
    }

    public int twice(int k) throws IndexOutOfBoundsException {
        requireIndex(k, air.size);
        Message first = air.at(k);
        Message second = air.send(first.kind, first.from, first.to, first.a, first.b, first.c);
        second.takeLoadOf(first);
        return air.size;
    }

    public boolean up(int sort, int node, boolean is) throws IndexOutOfBoundsException {
        requireIndex(sort, SORTS);
        requireIndex(node, nodesOf(sort));
        boolean was = isUp(sort, node);
        if (is) {
            upBits[sort] |= 1 << node;
        } else {
            upBits[sort] &= ~(1 << node);
        }
        return was;
    }

    public int message(int k, int what) throws IndexOutOfBoundsException {
        requireIndex(k, air.size);
        requireIndex(what, MESSAGE_WHATS);
        return air.at(k).tell(what);
    }

    public int leader(int leader, int what) throws IndexOutOfBoundsException {
        Leader who = leaderAt(leader);
        requireIndex(what, LEADER_WHATS);
        return who.tell(what);
    }

    public int slot(int leader, int slot, int what) throws IndexOutOfBoundsException {
        Leader who = leaderAt(leader);
        requireIndex(slot, SLOTS);
        requireIndex(what, SLOT_WHATS);
        if (what == 0 && who.phase != Leader.LEADING) {
            return 0;
        }
        return who.slots.tell(slot, what);
    }

    public int keeper(int keeper, int what) throws IndexOutOfBoundsException {
        requireIndex(keeper, KEEPERS);
        requireIndex(what, KEEPER_WHATS);
        return keepers[keeper].tell(what);
    }

    public int entry(int keeper, int i, boolean group) throws IndexOutOfBoundsException {
        requireIndex(keeper, KEEPERS);
        int round = Rounds.at(keepers[keeper].entries, i);
        requireIndex(round, ROUNDS);
        return group ? groups[round] : round;
    }

    public int voter(int voter, int what) throws IndexOutOfBoundsException {
        requireIndex(voter, VOTERS);
        requireIndex(what, VOTER_WHATS);
        return voters[voter].tell(what);
    }

    public int vote(int voter, int slot, boolean value) throws IndexOutOfBoundsException {
        requireIndex(voter, VOTERS);
        requireIndex(slot, SLOTS);
        int has = voters[voter].votes[slot];
        return value ? Voter.valueOf(has) : Voter.roundOf(has);
    }

    public int copy(int copy, int slot) throws IndexOutOfBoundsException {
        requireIndex(copy, COPIES);
        requireIndex(slot, SLOTS);
        return copies.values[copy * SLOTS + slot];
    }

    public int agreed(int slot) throws IndexOutOfBoundsException {
        requireIndex(slot, SLOTS);
        return tally.first[slot];
    }

    public int count(int what) throws IndexOutOfBoundsException {
        requireIndex(what, COUNT_WHATS);
        switch (what) {
            case 0:
                return air.size;
            case 1:
                return air.lost;
            case 2:
                return arrived;
            case 3:
                return copies.clashes;
            case 4:
                return tally.breaches;
            default:
                return begun;
        }
    }

    public void clear() {
        resetAll();
    }

    private void resetAll() {
        air.reset();
        Arrays.fill(groups, 0);
        tally.reset();
        copies.reset();
        for (int i = 0; i < LEADERS; i++) {
            leaders[i].reset();
        }
        for (int i = 0; i < KEEPERS; i++) {
            keepers[i].reset();
        }
        for (int i = 0; i < VOTERS; i++) {
            voters[i].reset();
        }
        for (int sort = 0; sort < SORTS; sort++) {
            upBits[sort] = (1 << nodesOf(sort)) - 1;
        }
        arrived = 0;
        begun = 0;
    }

    private Leader leaderAt(int leader) {
        requireIndex(leader, LEADERS);
        return leaders[leader];
    }

    private void requireUp(int leader) {
        if (!isUp(LEADER, leader)) {
            throw new IllegalStateException("the leader is down");
        }
    }

    private static void requireIndex(int i, int bound) {
        if (i < 0 || i >= bound) {
            throw new IndexOutOfBoundsException("there is no such node, message, slot, what or place");
        }
    }

    /** Lets a message that was taken out of the air come to whom it is for. */
    private void bring(Message m) {
        int sort = receiverOf(m.kind);
        if (!isUp(sort, m.to)) {
            air.lost++;
            return;
        }
        arrived++;
        if (sort == LEADER) {
            leaders[m.to].receive(m);
        } else if (sort == KEEPER) {
            keepers[m.to].receive(m);
        } else if (sort == VOTER) {
            voters[m.to].receive(m);
        } else {
            copies.receive(m);
        }
    }

    /** False also where there is no such node. */
    private boolean isUp(int sort, int node) {
        return sort >= 0 && sort < SORTS && node >= 0 && node < nodesOf(sort) && (upBits[sort] >> node & 1) != 0;
    }

    private static int nodesOf(int sort) {
        switch (sort) {
            case LEADER:
                return LEADERS;
            case KEEPER:
                return KEEPERS;
            case VOTER:
                return VOTERS;
            case COPY:
                return COPIES;
            default:
                return 0;
        }
    }

    private static int receiverOf(int kind) {
        switch (kind) {
            case MATCH:
            case COLLECT:
            case STOP:
            case SEED:
            case PICK:
            case MOVED:
                return KEEPER;
            case ASK:
            case VOTE:
            case KNOW:
            case RELEASE:
                return VOTER;
            case TELL:
                return COPY;
            default:
                return LEADER;
        }
    }

    private static boolean isRoundOf(int leader, int round) {
        return round >= 0 && round < ROUNDS && round % LEADERS == leader;
    }

    private static boolean isGroup(int group) {
        return group > 0 && group < 1 << VOTERS && Integer.bitCount(group) <= MAX_GROUP;
    }

    private static boolean isSet(int set) {
        return set > 0 && set < 1 << KEEPERS && Integer.bitCount(set) == SET_SIZE;
    }

    private static boolean isSlot(int slot) {
        return slot >= 0 && slot < SLOTS;
    }

    private static boolean isMajority(int bits, int group) {
        return Integer.bitCount(bits & group) * 2 > Integer.bitCount(group);
    }

    private static boolean areTwo(int bits) {
        return Integer.bitCount(bits) >= 2;
    }

    /**
     * Sets of rounds, as bits in the first words of a row. As each round has one group, such a set tells
     * entries whole; and it has room for all of them, since keepers that are seeded may get more than 12.
     */
    private static final class Rounds {
        static final int WORDS = 10;
        static final int WORD_BITS = 32;

        static boolean has(int[] set, int round) {
            return round >= 0 && round < ROUNDS && (set[round / WORD_BITS] >> round % WORD_BITS & 1) != 0;
        }

        static void add(int[] set, int round) {
            if (round >= 0 && round < ROUNDS) {
                set[round / WORD_BITS] |= 1 << round % WORD_BITS;
            }
        }

        static void addAll(int[] set, int[] more) {
            for (int w = 0; w < WORDS; w++) {
                set[w] |= more[w];
            }
        }

        static void setTo(int[] set, int[] other) {
            System.arraycopy(other, 0, set, 0, WORDS);
        }

        static void empty(int[] set) {
            Arrays.fill(set, 0, WORDS, 0);
        }

        static void dropBelow(int[] set, int round) {
            for (int w = 0; w < WORDS; w++) {
                set[w] &= ~bitsBelow(w, round);
            }
        }

        static void keepBelow(int[] set, int round) {
            for (int w = 0; w < WORDS; w++) {
                set[w] &= bitsBelow(w, round);
            }
        }

        /** Those bits of a word that stand for rounds below this one. */
        private static int bitsBelow(int word, int round) {
            int rest = round - word * WORD_BITS;
            if (rest <= 0) {
                return 0;
            }
            return rest >= WORD_BITS ? -1 : (1 << rest) - 1;
        }

        static int size(int[] set) {
            int size = 0;
            for (int w = 0; w < WORDS; w++) {
                size += Integer.bitCount(set[w]);
            }
            return size;
        }

        static int greatest(int[] set) {
            for (int w = WORDS - 1; w >= 0; w--) {
                if (set[w] != 0) {
                    return w * WORD_BITS + WORD_BITS - 1 - Integer.numberOfLeadingZeros(set[w]);
                }
            }
            return NONE;
        }

        /** The round at a place, by rising rounds; NONE if there is no such place. */
        static int at(int[] set, int place) {
            int before = 0;
            for (int round = 0; round < ROUNDS; round++) {
                if (has(set, round)) {
                    if (before == place) {
                        return round;
                    }
                    before++;
                }
            }
            return NONE;
        }
    }

    private static final class Message {
        int kind;
        int from;
        int to;
        int a;
        int b;
        int c;
        int pickBallot;
        int pickSet;
        /** The entries' rounds (see Rounds) or the votes by slots (see Voter); never both, so they share a row. */
        final int[] load = new int[SLOTS];

        void takeLoadOf(Message other) {
            pickBallot = other.pickBallot;
            pickSet = other.pickSet;
            System.arraycopy(other.load, 0, load, 0, SLOTS);
        }

        int tell(int what) {
            switch (what) {
                case 0:
                    return kind;
                case 1:
                    return from;
                case 2:
                    return to;
                case 3:
                    return a;
                case 4:
                    return b;
                case 5:
                    return c;
                case 6:
                    return loadSize();
                case 7:
                    return pickBallot;
                default:
                    return pickSet;
            }
        }

        private int loadSize() {
            switch (kind) {
                case MATCHED:
                case STOPPED:
                case SEED:
                    return Rounds.size(load);
                case ASKED:
                    return Voter.votesIn(load);
                default:
                    return 0;
            }
        }
    }

    private static final class Air {
        /** From place head on, round the end, the oldest first; the places behind the last hold spare ones. */
        private final Message[] ring;
        /** Who gets a message still reads it while answers are sent, so it stays out of the ring until the next. */
        private Message taken;
        private final Message wasted;
        private int head;
        int size;
        int lost;
        int sent;

        Air() {
            ring = new Message[MAX_AIR];
            for (int i = 0; i < MAX_AIR; i++) {
                ring[i] = new Message();
            }
            taken = new Message();
            wasted = new Message();
        }

        void reset() {
            head = 0;
            size = 0;
            lost = 0;
            sent = 0;
        }

        /** The k-th message; the caller has seen that there is one. */
        Message at(int k) {
            return ring[(head + k) % MAX_AIR];
        }

        Message take(int k) {
            Message wanted = at(k);
            for (int i = k; i > 0; i--) {
                ring[(head + i) % MAX_AIR] = at(i - 1);
            }
            ring[head] = taken;
            taken = wanted;
            head = (head + 1) % MAX_AIR;
            size--;
            return wanted;
        }

        /** Answers the message, so that its load can be put on; one that is LOST is wasted, load and all. */
        Message send(int kind, int from, int to, int a, int b, int c) {
            Message m = wasted;
            sent++;
            if (size < MAX_AIR) {
                m = ring[(head + size) % MAX_AIR];
                size++;
            } else {
                lost++;
            }
            m.kind = kind;
            m.from = from;
            m.to = to;
            m.a = a;
            m.b = b;
            m.c = c;
            m.pickBallot = 0;
            m.pickSet = 0;
            return m;
        }

        void sendEach(int kind, int from, int toBits, int a, int b, int c) {
            for (int to = 0; to < VOTERS; to++) {
                if ((toBits >> to & 1) != 0) {
                    send(kind, from, to, a, b, c);
                }
            }
        }
    }

    private static final class Leader {
        static final int IDLE = 0;
        static final int MATCHING = 1;
        static final int ASKING = 2;
        static final int LEADING = 3;

        private final int number;
        private final Air air;
        private final int[] groups;
        final Keeping keeping;
        final Slots slots;
        private final Collecting collecting;
        int phase;
        int round;
        private int group;
        private int matched;
        private int watermark;
        /** The rounds of all entries noted; from ASKING on those of its HISTORY. */
        private final int[] history = new int[Rounds.WORDS];
        private int asked;
        private int known;
        private final int[] votes = new int[SLOTS];
        private int base;
        private int next;

        Leader(int number, Air air, int[] groups) {
            this.number = number;
            this.air = air;
            this.groups = groups;
            keeping = new Keeping(number, air);
            slots = new Slots(number, air);
            collecting = new Collecting();
        }

        void reset() {
            phase = IDLE;
            round = NONE;
            group = 0;
            keeping.reset();
            forgetRound();
        }

        private void forgetRound() {
            forgetMatched();
            asked = 0;
            known = 0;
            Arrays.fill(votes, NONE);
            base = 0;
            next = 0;
            slots.reset();
            collecting.reset();
        }

        private void forgetMatched() {
            matched = 0;
            watermark = 0;
            Rounds.empty(history);
        }

        void beginRound(int newRound, int newGroup) {
            forgetRound();
            phase = MATCHING;
            round = newRound;
            group = newGroup;
            air.sendEach(MATCH, number, keeping.set, keeping.generation, round, group);
        }

        int proposeNext(int value) {
            if (phase != LEADING || next >= SLOTS) {
                return NONE;
            }
            int slot = next;
            next++;
            slots.put(slot, value);
            air.sendEach(VOTE, number, group, round, slot, value);
            return slot;
        }

        boolean startCollecting() {
            if (phase != LEADING || !slots.areChosen(slots.firm(), base)) {
                return false;
            }
            collecting.reset();
            collecting.stage = Collecting.KNOWING;
            collecting.firm = slots.firm();
            air.sendEach(KNOW, number, group, round, collecting.firm, 0);
            return true;
        }

        void sendAgain() {
            if (phase == MATCHING) {
                air.sendEach(MATCH, number, keeping.set & ~matched, keeping.generation, round, group);
            } else if (phase == ASKING) {
                air.sendEach(ASK, number, historyVoters() & ~asked, round, 0, 0);
            } else if (phase == LEADING) {
                slots.sendAgain(round, group);
                sendStageAgain();
            }
            keeping.sendStep();
        }

        private void sendStageAgain() {
            if (collecting.stage == Collecting.KNOWING) {
                air.sendEach(KNOW, number, group & ~collecting.knowing, round, collecting.firm, 0);
            } else if (collecting.stage == Collecting.COLLECTING) {
                air.sendEach(COLLECT, number, keeping.set & ~collecting.collected, keeping.generation, round, 0);
            } else if (collecting.stage == Collecting.DONE) {
                air.sendEach(RELEASE, number, collecting.releasing & ~collecting.released, round, 0, 0);
            }
        }

        void receive(Message m) {
            switch (m.kind) {
                case MATCHED:
                    receiveMatched(m);
                    break;
                case ASKED:
                    receiveAsked(m);
                    break;
                case VOTED:
                    if (leadsIn(m.a)) {
                        slots.noteVoter(m.b, m.from, group);
                    }
                    break;
                case TOLD:
                    if (phase == LEADING) {
                        slots.noteCopy(m.a, m.b, m.from);
                    }
                    break;
                case KNOWN:
                    receiveKnown(m);
                    break;
                case COLLECTED:
                    receiveCollected(m);
                    break;
                case RELEASED:
                    receiveReleased(m);
                    break;
                case NO:
                case REFUSED:
                    if (m.a == round) {
                        phase = IDLE;
                    }
                    break;
                case STOPPED:
                    keeping.receiveStopped(m);
                    break;
                case SEEDED:
                    keeping.receiveSeeded(m);
                    break;
                case PICKED:
                    if (keeping.receivePicked(m)) {
                        goOn(keeping.generation + 1, keeping.wanted);
                    }
                    break;
                case GONE:
                    if (keeping.generation < m.a) {
                        goOn(m.a, m.b);
                    }
                    break;
                default:
                    break;
            }
        }

        private boolean leadsIn(int thatRound) {
            return phase == LEADING && round == thatRound;
        }

        private void receiveMatched(Message m) {
            if (phase != MATCHING || m.b != round || m.a != keeping.generation) {
                return;
            }
            matched |= 1 << m.from;
            watermark = Math.max(watermark, m.c);
            Rounds.addAll(history, m.load);
            if (!areTwo(matched & keeping.set)) {
                return;
            }
            Rounds.dropBelow(history, watermark);
            phase = ASKING;
            int toAsk = historyVoters();
            if (toAsk == 0) {
                lead();
            } else {
                air.sendEach(ASK, number, toAsk, round, 0, 0);
            }
        }

        private void receiveAsked(Message m) {
            if (phase != ASKING || m.a != round) {
                return;
            }
            asked |= 1 << m.from;
            known = Math.max(known, m.b);
            for (int slot = 0; slot < SLOTS; slot++) {
                votes[slot] = Voter.later(votes[slot], m.load[slot]);
            }
            if (hasMajorities()) {
                lead();
            }
        }

        private void lead() {
            phase = LEADING;
            base = known;
            for (int slot = 0; slot < SLOTS; slot++) {
                if (votes[slot] != NONE) {
                    base = Math.max(base, slot + 1);
                }
            }
            next = base;
            for (int slot = 0; slot < SLOTS && slot < base; slot++) {
                if (slot < known) {
                    slots.settle(slot);
                } else {
                    int value = votes[slot] == NONE ? 0 : Voter.valueOf(votes[slot]);
                    slots.put(slot, value);
                    air.sendEach(VOTE, number, group, round, slot, value);
                }
            }
        }

        private void receiveKnown(Message m) {
            if (!leadsIn(m.a) || collecting.stage != Collecting.KNOWING || m.b != collecting.firm) {
                return;
            }
            collecting.knowing |= 1 << m.from;
            if (isMajority(collecting.knowing, group)) {
                collecting.stage = Collecting.COLLECTING;
                air.sendEach(COLLECT, number, keeping.set, keeping.generation, round, 0);
            }
        }

        private void receiveCollected(Message m) {
            if (!leadsIn(m.b) || collecting.stage != Collecting.COLLECTING || m.a != keeping.generation) {
                return;
            }
            collecting.collected |= 1 << m.from;
            if (areTwo(collecting.collected)) {
                collecting.stage = Collecting.DONE;
                collecting.releasing = historyVoters();
                Rounds.empty(history);
                air.sendEach(RELEASE, number, collecting.releasing, round, 0, 0);
            }
        }

        private void receiveReleased(Message m) {
            if (collecting.stage == Collecting.DONE && m.a == round) {
                collecting.released |= 1 << m.from;
            }
        }

        private void goOn(int newGeneration, int newSet) {
            keeping.generation = newGeneration;
            keeping.set = newSet;
            keeping.step = Keeping.NO_STEP;
            if (phase == MATCHING) {
                forgetMatched();
            }
            collecting.collected = 0;
        }

        private int historyVoters() {
            int bits = 0;
            for (int word = 0; word < Rounds.WORDS; word++) {
                for (int bit = 0; bit < Rounds.WORD_BITS && history[word] != 0; bit++) {
                    int r = word * Rounds.WORD_BITS + bit;
                    bits |= Rounds.has(history, r) ? groups[r] : 0;
                }
            }
            return bits;
        }

        private boolean hasMajorities() {
            for (int word = 0; word < Rounds.WORDS; word++) {
                for (int bit = 0; bit < Rounds.WORD_BITS && history[word] != 0; bit++) {
                    int r = word * Rounds.WORD_BITS + bit;
                    if (Rounds.has(history, r) && !isMajority(asked, groups[r])) {
                        return false;
                    }
                }
            }
            return true;
        }

        int tell(int what) {
            switch (what) {
                case 0:
                    return phase;
                case 1:
                    return round;
                case 2:
                    return group;
                case 3:
                    return keeping.generation;
                case 4:
                    return keeping.set;
                case 5:
                    return Rounds.size(history);
                case 10:
                    return collecting.stage;
                case 11:
                    return keeping.step;
                case 12:
                    return keeping.wanted;
                case 13:
                    return collecting.stage == Collecting.DONE ? collecting.released : asked;
                default:
                    return phase == LEADING ? tellOfLeading(what) : 0;
            }
        }

        private int tellOfLeading(int what) {
            switch (what) {
                case 6:
                    return base;
                case 7:
                    return next;
                case 8:
                    return known;
                default:
                    return slots.firm();
            }
        }
    }

    /** What a leader noted of the slots of its round. */
    private static final class Slots {
        static final int NOTHING = 0;
        static final int PROPOSED = 1;
        static final int CHOSEN = 2;
        static final int STORED = 3;
        static final int SETTLED = 4;

        private final int number;
        private final Air air;
        private final int[] states = new int[SLOTS];
        private final int[] values = new int[SLOTS];
        private final int[] voted = new int[SLOTS];
        private final int[] told = new int[SLOTS];

        Slots(int number, Air air) {
            this.number = number;
            this.air = air;
        }

        void reset() {
            Arrays.fill(states, NOTHING);
            Arrays.fill(values, NONE);
            Arrays.fill(voted, 0);
            Arrays.fill(told, 0);
        }

        void settle(int slot) {
            if (isSlot(slot)) {
                states[slot] = SETTLED;
            }
        }

        void put(int slot, int value) {
            if (isSlot(slot)) {
                states[slot] = PROPOSED;
                values[slot] = value;
            }
        }

        void noteVoter(int slot, int voter, int group) {
            if (!isSlot(slot)) {
                return;
            }
            voted[slot] |= 1 << voter;
            if (states[slot] == PROPOSED && isMajority(voted[slot], group)) {
                states[slot] = CHOSEN;
                air.sendEach(TELL, number, ALL_COPIES, slot, values[slot], 0);
            }
        }

        void noteCopy(int slot, int value, int copy) {
            if (!isSlot(slot) || !isChosen(slot) || values[slot] != value) {
                return;
            }
            told[slot] |= 1 << copy;
            if (areTwo(told[slot])) {
                states[slot] = STORED;
            }
        }

        /** A slot that is STORED is CHOSEN still. */
        private boolean isChosen(int slot) {
            return states[slot] == CHOSEN || states[slot] == STORED;
        }

        boolean areChosen(int from, int below) {
            for (int slot = 0; slot < SLOTS; slot++) {
                if (slot >= from && slot < below && !isChosen(slot)) {
                    return false;
                }
            }
            return true;
        }

        int firm() {
            for (int slot = 0; slot < SLOTS; slot++) {
                if (states[slot] != SETTLED && states[slot] != STORED) {
                    return slot;
                }
            }
            return SLOTS;
        }

        void sendAgain(int round, int group) {
            for (int slot = 0; slot < SLOTS; slot++) {
                if (states[slot] == PROPOSED) {
                    air.sendEach(VOTE, number, group & ~voted[slot], round, slot, values[slot]);
                } else if (states[slot] == CHOSEN) {
                    air.sendEach(TELL, number, ALL_COPIES & ~told[slot], slot, values[slot], 0);
                }
            }
        }

        int tell(int slot, int what) {
            if (!isSlot(slot)) {
                return NONE;
            }
            switch (what) {
                case 0:
                    return states[slot];
                case 1:
                    return values[slot];
                case 2:
                    return voted[slot];
                default:
                    return told[slot];
            }
        }
    }

    /** What a leader noted of letting groups go. */
    private static final class Collecting {
        static final int NO_STAGE = 0;
        static final int KNOWING = 1;
        static final int COLLECTING = 2;
        static final int DONE = 3;

        int stage;
        int firm;
        int knowing;
        int collected;
        /** To whom RELEASE went: the HISTORY is empty by then and cannot tell it. */
        int releasing;
        int released;

        void reset() {
            stage = NO_STAGE;
            firm = 0;
            knowing = 0;
            collected = 0;
            releasing = 0;
            released = 0;
        }
    }

    /** The keepers that a leader knows, and how far it is in exchanging them for others. */
    private static final class Keeping {
        static final int NO_STEP = 0;
        static final int STOPPING = 1;
        static final int SEEDING = 2;
        static final int PICKING = 3;

        private final int number;
        private final Air air;
        int generation;
        int set;
        int step;
        int ballot;
        int wanted;
        /** Of this step: each step notes from none on. */
        private int noted;
        private int watermark;
        private final int[] entries = new int[Rounds.WORDS];
        private int pickBallot;
        private int pickSet;

        Keeping(int number, Air air) {
            this.number = number;
            this.air = air;
        }

        void reset() {
            generation = 0;
            set = FIRST_SET;
            step = NO_STEP;
            ballot = NONE;
            wanted = 0;
            forget();
        }

        private void forget() {
            noted = 0;
            watermark = 0;
            Rounds.empty(entries);
            pickBallot = NONE;
            pickSet = 0;
        }

        void startReform(int newBallot, int newSet) {
            forget();
            step = STOPPING;
            ballot = newBallot;
            wanted = newSet;
            sendStep();
        }

        /** Sends what the step sends, to all who are not noted for it: so it serves for the first time and again. */
        void sendStep() {
            if (step == STOPPING) {
                air.sendEach(STOP, number, set & ~noted, generation, ballot, 0);
            } else if (step == SEEDING) {
                sendSeeds(wanted & ~noted);
            } else if (step == PICKING) {
                air.sendEach(PICK, number, set & ~noted, generation, ballot, wanted);
            }
        }

        private void sendSeeds(int toBits) {
            for (int to = 0; to < KEEPERS; to++) {
                if ((toBits >> to & 1) != 0) {
                    Message seed = air.send(SEED, number, to, generation + 1, wanted, watermark);
                    Rounds.setTo(seed.load, entries);
                }
            }
        }

        void receiveStopped(Message m) {
            if (step != STOPPING || m.a != generation || m.b != ballot) {
                return;
            }
            noted |= 1 << m.from;
            watermark = Math.max(watermark, m.c);
            Rounds.addAll(entries, m.load);
            if (m.pickBallot > pickBallot) {
                pickBallot = m.pickBallot;
                pickSet = m.pickSet;
            }
            if (!areTwo(noted)) {
                return;
            }
            noted = 0;
            if (pickBallot != NONE) {
                wanted = pickSet;
                step = PICKING;
            } else {
                Rounds.dropBelow(entries, watermark);
                step = SEEDING;
            }
            sendStep();
        }

        void receiveSeeded(Message m) {
            if (step != SEEDING || m.a != generation + 1) {
                return;
            }
            noted |= 1 << m.from;
            if ((noted & wanted) == wanted) {
                noted = 0;
                step = PICKING;
                sendStep();
            }
        }

        /** Whether the set WANTED is picked now, and told to all: the leader has to GO ON with it. */
        boolean receivePicked(Message m) {
            if (step != PICKING || m.a != generation || m.b != ballot) {
                return false;
            }
            noted |= 1 << m.from;
            if (!areTwo(noted)) {
                return false;
            }
            air.sendEach(MOVED, number, set, generation, wanted, 0);
            air.sendEach(MOVED, number, wanted, generation, wanted, 0);
            return true;
        }
    }

    private static final class Keeper {
        static final int IS_OFF = 0;
        static final int IS_READY = 1;
        static final int IS_ON = 2;
        static final int IS_STOPPED = 3;

        private final int number;
        private final Air air;
        private final int[] groups;
        private int state;
        private int generation;
        private int readySet;
        private int watermark;
        final int[] entries = new int[Rounds.WORDS];
        private int ballot;
        private int pickBallot;
        private int pickSet;
        private int nextSet;

        Keeper(int number, Air air, int[] groups) {
            this.number = number;
            this.air = air;
            this.groups = groups;
        }

        void reset() {
            boolean isFirst = (FIRST_SET >> number & 1) != 0;
            state = isFirst ? IS_ON : IS_OFF;
            generation = isFirst ? 0 : NONE;
            readySet = 0;
            watermark = 0;
            Rounds.empty(entries);
            forgetReform();
        }

        private void forgetReform() {
            ballot = NONE;
            pickBallot = NONE;
            pickSet = 0;
            nextSet = 0;
        }

        void receive(Message m) {
            switch (m.kind) {
                case MATCH:
                    receiveMatch(m);
                    break;
                case COLLECT:
                    receiveCollect(m);
                    break;
                case STOP:
                    receiveStop(m);
                    break;
                case SEED:
                    receiveSeed(m);
                    break;
                case PICK:
                    receivePick(m);
                    break;
                case MOVED:
                    receiveMoved(m);
                    break;
                default:
                    break;
            }
        }

        private boolean isOnIn(int thatGeneration) {
            return state == IS_ON && generation == thatGeneration;
        }

        private boolean knowsNext() {
            return nextSet != 0;
        }

        private void sendGone(int to) {
            if (knowsNext()) {
                air.send(GONE, number, to, generation + 1, nextSet, 0);
            }
        }

        private void receiveMatch(Message m) {
            if (!isOnIn(m.a)) {
                sendGone(m.from);
                return;
            }
            int round = m.b;
            int greatest = Math.max(Rounds.greatest(entries), watermark);
            if (refuses(round, m.c, greatest)) {
                air.send(NO, number, m.from, round, greatest, 0);
                return;
            }
            Rounds.add(entries, round);
            Message answer = air.send(MATCHED, number, m.from, generation, round, watermark);
            Rounds.setTo(answer.load, entries);
            Rounds.keepBelow(answer.load, round);
        }

        /** One with 12 entries refuses also a round that it has: so the document's words say it. */
        private boolean refuses(int round, int group, int greatest) {
            if (Rounds.size(entries) >= MAX_ENTRIES) {
                return true;
            }
            if (Rounds.has(entries, round)) {
                return groups[round] != group;
            }
            return round < greatest;
        }

        private void receiveCollect(Message m) {
            if (!isOnIn(m.a)) {
                sendGone(m.from);
                return;
            }
            Rounds.dropBelow(entries, m.b);
            watermark = Math.max(watermark, m.b);
            air.send(COLLECTED, number, m.from, generation, m.b, 0);
        }

        private void receiveStop(Message m) {
            if (knowsNext()) {
                sendGone(m.from);
                return;
            }
            boolean canStop = state == IS_ON || state == IS_STOPPED;
            if (!canStop || generation != m.a || m.b < ballot) {
                return;
            }
            ballot = m.b;
            state = IS_STOPPED;
            Message answer = air.send(STOPPED, number, m.from, generation, ballot, watermark);
            Rounds.setTo(answer.load, entries);
            answer.pickBallot = pickBallot;
            answer.pickSet = pickSet;
        }

        private void receiveSeed(Message m) {
            if (!canBeSeeded(m.a)) {
                return;
            }
            state = IS_READY;
            generation = m.a;
            readySet = m.b;
            watermark = m.c;
            Rounds.setTo(entries, m.load);
            forgetReform();
            air.send(SEEDED, number, m.from, generation, 0, 0);
        }

        private boolean canBeSeeded(int newGeneration) {
            switch (state) {
                case IS_OFF:
                    return true;
                case IS_READY:
                    return generation <= newGeneration;
                case IS_STOPPED:
                    return knowsNext() && generation < newGeneration;
                default:
                    return false;
            }
        }

        private void receivePick(Message m) {
            if (state != IS_STOPPED || generation != m.a || knowsNext() || m.b < ballot) {
                return;
            }
            ballot = m.b;
            pickBallot = m.b;
            pickSet = m.c;
            air.send(PICKED, number, m.from, generation, ballot, 0);
        }

        private void receiveMoved(Message m) {
            if (state == IS_READY && generation == m.a + 1 && readySet == m.b) {
                state = IS_ON;
            } else if (state == IS_STOPPED && generation == m.a) {
                nextSet = m.b;
            }
        }

        int tell(int what) {
            switch (what) {
                case 0:
                    return state;
                case 1:
                    return generation;
                case 2:
                    return watermark;
                case 3:
                    return Rounds.size(entries);
                case 4:
                    return ballot;
                case 5:
                    return pickBallot;
                case 6:
                    return pickSet;
                default:
                    return nextSet;
            }
        }
    }

    private static final class Voter {
        /** A vote is one number, its round above its value's bits: so the later of two votes is the greater number. */
        private static final int VALUE_BITS = 20;
        private static final int VALUE_MASK = (1 << VALUE_BITS) - 1;

        private final int number;
        private final Air air;
        private final Tally tally;
        private int promised;
        private int knows;
        final int[] votes = new int[SLOTS];

        Voter(int number, Air air, Tally tally) {
            this.number = number;
            this.air = air;
            this.tally = tally;
        }

        static int roundOf(int packed) {
            return packed == NONE ? NONE : packed >> VALUE_BITS;
        }

        static int valueOf(int packed) {
            return packed == NONE ? NONE : packed & VALUE_MASK;
        }

        static int later(int one, int other) {
            return Math.max(one, other);
        }

        static int votesIn(int[] row) {
            int many = 0;
            for (int slot = 0; slot < SLOTS; slot++) {
                if (row[slot] != NONE) {
                    many++;
                }
            }
            return many;
        }

        void reset() {
            promised = NONE;
            knows = 0;
            Arrays.fill(votes, NONE);
        }

        void receive(Message m) {
            if (m.kind == RELEASE) {
                release(m);
                return;
            }
            if (m.a < promised) {
                air.send(REFUSED, number, m.from, m.a, promised, 0);
                return;
            }
            promised = m.a;
            if (m.kind == ASK) {
                Message answer = air.send(ASKED, number, m.from, m.a, knows, 0);
                System.arraycopy(votes, 0, answer.load, 0, SLOTS);
            } else if (m.kind == VOTE) {
                castVote(m);
            } else if (m.kind == KNOW) {
                knows = Math.max(knows, m.b);
                air.send(KNOWN, number, m.from, m.a, m.b, 0);
            }
        }

        private void castVote(Message m) {
            if (!isSlot(m.b)) {
                return;
            }
            votes[m.b] = m.a << VALUE_BITS | m.c;
            tally.note(m.a, m.b, number, m.c);
            air.send(VOTED, number, m.from, m.a, m.b, 0);
        }

        private void release(Message m) {
            for (int slot = 0; slot < SLOTS; slot++) {
                if (roundOf(votes[slot]) < m.a) {
                    votes[slot] = NONE;
                }
            }
            air.send(RELEASED, number, m.from, m.a, 0, 0);
        }

        int tell(int what) {
            switch (what) {
                case 0:
                    return promised;
                case 1:
                    return knows;
                default:
                    return votesIn(votes);
            }
        }
    }

    private static final class Copies {
        private final Air air;
        /** Copy by copy, each with all slots. */
        final int[] values = new int[COPIES * SLOTS];
        int clashes;

        Copies(Air air) {
            this.air = air;
        }

        void reset() {
            Arrays.fill(values, NONE);
            clashes = 0;
        }

        void receive(Message m) {
            if (m.to < 0 || m.to >= COPIES || !isSlot(m.a)) {
                return;
            }
            int place = m.to * SLOTS + m.a;
            if (values[place] == NONE) {
                values[place] = m.b;
            } else if (values[place] != m.b) {
                clashes++;
            }
            air.send(TOLD, m.to, m.from, m.a, values[place], 0);
        }
    }

    /** What is true, whoever knows it: who voted in which round, and so what is AGREED. */
    private static final class Tally {
        private static final int BITS_OF_SLOT = 16;
        private static final int SLOTS_OF_WORD = 4;
        private static final int WORDS_OF_ROUND = SLOTS / SLOTS_OF_WORD;
        private static final int ALL_VOTERS = (1 << VOTERS) - 1;

        private final int[] groups;
        /** Who ever voted in a round for a slot, four slots a word to keep the object small. */
        private final long[] voted = new long[ROUNDS * WORDS_OF_ROUND];
        final int[] first = new int[SLOTS];
        /** The slots with more than one value AGREED, as bits: there each value has another one beside it. */
        private int apart;
        int breaches;

        Tally(int[] groups) {
            this.groups = groups;
        }

        void reset() {
            Arrays.fill(voted, 0L);
            Arrays.fill(first, NONE);
            apart = 0;
            breaches = 0;
        }

        /** In one round a slot has one value, so round and slot alone tell whom to count together. */
        void note(int round, int slot, int voter, int value) {
            if (round < 0 || round >= ROUNDS || !isSlot(slot)) {
                return;
            }
            int word = round * WORDS_OF_ROUND + slot / SLOTS_OF_WORD;
            int shift = slot % SLOTS_OF_WORD * BITS_OF_SLOT;
            int before = (int) (voted[word] >>> shift) & ALL_VOTERS;
            int after = before | 1 << voter;
            voted[word] |= (long) after << shift;
            if (isMajority(after, groups[round]) && !isMajority(before, groups[round])) {
                agree(slot, value);
            }
        }

        private void agree(int slot, int value) {
            if (first[slot] == NONE) {
                first[slot] = value;
            } else if (first[slot] != value || (apart >> slot & 1) != 0) {
                apart |= 1 << slot;
                breaches++;
            }
        }
    }
}
