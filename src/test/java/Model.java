import java.util.ArrayList;
import java.util.Arrays;
import java.util.HashMap;
import java.util.HashSet;
import java.util.List;
import java.util.Map;
import java.util.Set;
import java.util.TreeMap;
import java.util.TreeSet;

/**
 * The document once more, with the Java library and word by word: entries are maps with a group each,
 * nodes are noted in sets, messages are made anew. It shares no code and no form of state with the class.
 */
final class Model implements Face {
    static final String[] KINDS = {
        "", "MATCH", "MATCHED", "ASK", "ASKED", "VOTE", "VOTED", "TELL", "TOLD", "KNOW", "KNOWN", "COLLECT",
        "COLLECTED", "RELEASE", "RELEASED", "NO", "STOP", "STOPPED", "SEED", "SEEDED", "PICK", "PICKED", "MOVED",
        "GONE", "REFUSED"};
    static final Set<String> TO_KEEPER = Set.of("MATCH", "COLLECT", "STOP", "SEED", "PICK", "MOVED");
    static final Set<String> TO_VOTER = Set.of("ASK", "VOTE", "KNOW", "RELEASE");

    record Vote(int round, int value) {}

    static final class Msg {
        String kind;
        int from;
        int to;
        int[] told = new int[3];
        TreeMap<Integer, Integer> entries = new TreeMap<>();
        TreeMap<Integer, Vote> votes = new TreeMap<>();
        int pickBallot;
        int pickSet;
    }

    static final class L {
        String phase = "IDLE";
        int round = -1;
        int group;
        int generation;
        int set = 7;
        Set<Integer> matched = new TreeSet<>();
        int watermark;
        TreeMap<Integer, Integer> entries = new TreeMap<>();
        Set<Integer> asked = new TreeSet<>();
        int known;
        TreeMap<Integer, Vote> votes = new TreeMap<>();
        int base;
        int next;
        Set<Integer> settled = new TreeSet<>();
        TreeMap<Integer, Integer> proposed = new TreeMap<>();
        Set<Integer> chosen = new TreeSet<>();
        Set<Integer> stored = new TreeSet<>();
        Map<Integer, Set<Integer>> votersOf = new HashMap<>();
        Map<Integer, Set<Integer>> copiesOf = new HashMap<>();
        int stage;
        int collectNumber;
        Set<Integer> knowing = new TreeSet<>();
        Set<Integer> collected = new TreeSet<>();
        Set<Integer> releaseTo = new TreeSet<>();
        Set<Integer> released = new TreeSet<>();
        int step;
        int ballot = -1;
        int wanted;
        Set<Integer> stopped = new TreeSet<>();
        int stopWatermark;
        TreeMap<Integer, Integer> stopEntries = new TreeMap<>();
        int pickBallot = -1;
        int pickSet;
        Set<Integer> seeded = new TreeSet<>();
        Set<Integer> picked = new TreeSet<>();
    }

    static final class K {
        String state = "OFF";
        int generation = -1;
        int watermark;
        TreeMap<Integer, Integer> entries = new TreeMap<>();
        int ballot = -1;
        int pickBallot = -1;
        int pickSet;
        int next;
        int readyWith;
    }

    static final class V {
        int promised = -1;
        int knows;
        TreeMap<Integer, Vote> votes = new TreeMap<>();
    }

    List<Msg> air;
    int lost;
    int came;
    int clashes;
    int breaches;
    L[] ls;
    K[] ks;
    V[] vs;
    List<Map<Integer, Integer>> cs;
    Set<String> down;
    Map<Integer, Integer> groupOfRound;
    Map<String, Set<Integer>> everVoted;
    Set<String> reached;
    Map<Integer, List<Integer>> agreedValues;

    Model() {
        clear();
    }

    public void clear() {
        air = new ArrayList<>();
        lost = 0;
        came = 0;
        clashes = 0;
        breaches = 0;
        ls = new L[] {new L(), new L(), new L()};
        ks = new K[9];
        for (int i = 0; i < 9; i++) {
            ks[i] = new K();
            if (i < 3) {
                ks[i].state = "ON";
                ks[i].generation = 0;
            }
        }
        vs = new V[12];
        for (int i = 0; i < 12; i++) {
            vs[i] = new V();
        }
        cs = new ArrayList<>();
        for (int i = 0; i < 3; i++) {
            cs.add(new HashMap<>());
        }
        down = new HashSet<>();
        groupOfRound = new HashMap<>();
        everVoted = new HashMap<>();
        reached = new HashSet<>();
        agreedValues = new HashMap<>();
    }

    static Set<Integer> nodes(int bits) {
        Set<Integer> all = new TreeSet<>();
        for (int i = 0; i < 31; i++) {
            if ((bits & (1 << i)) != 0) {
                all.add(i);
            }
        }
        return all;
    }

    static int bits(Set<Integer> nodes) {
        int bits = 0;
        for (int n : nodes) {
            bits += 1 << n;
        }
        return bits;
    }

    static boolean majority(Set<Integer> noted, int group) {
        int in = 0;
        for (int n : nodes(group)) {
            in += noted.contains(n) ? 1 : 0;
        }
        return in > nodes(group).size() / 2.0;
    }

    static Set<Integer> without(Set<Integer> all, Set<Integer> noted) {
        Set<Integer> rest = new TreeSet<>(all);
        rest.removeAll(noted);
        return rest;
    }

    Msg send(String kind, int from, int to, int... told) {
        Msg m = new Msg();
        m.kind = kind;
        m.from = from;
        m.to = to;
        System.arraycopy(told, 0, m.told, 0, told.length);
        if (air.size() >= 400) {
            lost++;
        } else {
            air.add(m);
        }
        return m;
    }

    int sendAll(String kind, int from, Set<Integer> to, int... told) {
        for (int t : to) {
            send(kind, from, t, told);
        }
        return to.size();
    }

    static void index(boolean fine) {
        if (!fine) {
            throw new IndexOutOfBoundsException();
        }
    }

    static void argument(boolean fine) {
        if (!fine) {
            throw new IllegalArgumentException();
        }
    }

    void leaderUp(int leader) {
        if (down.contains("0/" + leader)) {
            throw new IllegalStateException();
        }
    }

    static boolean in(int i, int from, int to) {
        return from <= i && i <= to;
    }

    public int begin(int leader, int round, int group) {
        index(in(leader, 0, 2));
        L l = ls[leader];
        argument(in(round, 0, 299));
        argument(round % 3 == leader && round > l.round);
        argument(in(group, 1, 4095) && in(nodes(group).size(), 1, 5));
        leaderUp(leader);
        groupOfRound.put(round, group);
        L fresh = new L();
        fresh.generation = l.generation;
        fresh.set = l.set;
        fresh.step = l.step;
        fresh.ballot = l.ballot;
        fresh.wanted = l.wanted;
        fresh.stopped = l.stopped;
        fresh.stopWatermark = l.stopWatermark;
        fresh.stopEntries = l.stopEntries;
        fresh.pickBallot = l.pickBallot;
        fresh.pickSet = l.pickSet;
        fresh.seeded = l.seeded;
        fresh.picked = l.picked;
        fresh.phase = "MATCHING";
        fresh.round = round;
        fresh.group = group;
        ls[leader] = fresh;
        sendAll("MATCH", leader, nodes(fresh.set), fresh.generation, round, group);
        return air.size();
    }

    public int propose(int leader, int value) {
        index(in(leader, 0, 2));
        argument(in(value, 1, 1000000));
        leaderUp(leader);
        L l = ls[leader];
        if (!l.phase.equals("LEADING") || l.next == 16) {
            return -1;
        }
        put(leader, l.next, value);
        return l.next++;
    }

    void put(int leader, int slot, int value) {
        L l = ls[leader];
        l.proposed.put(slot, value);
        l.votersOf.put(slot, new TreeSet<>());
        l.copiesOf.put(slot, new TreeSet<>());
        sendAll("VOTE", leader, nodes(l.group), l.round, slot, value);
    }

    int firm(L l) {
        int firm = 0;
        while (l.settled.contains(firm) || l.stored.contains(firm)) {
            firm++;
        }
        return firm;
    }

    public boolean collect(int leader) {
        index(in(leader, 0, 2));
        leaderUp(leader);
        L l = ls[leader];
        if (!l.phase.equals("LEADING")) {
            return false;
        }
        for (int s = firm(l); s < l.base; s++) {
            if (!l.chosen.contains(s)) {
                return false;
            }
        }
        l.knowing.clear();
        l.collected.clear();
        l.releaseTo.clear();
        l.released.clear();
        l.stage = 1;
        l.collectNumber = firm(l);
        sendAll("KNOW", leader, nodes(l.group), l.round, l.collectNumber);
        return true;
    }

    public int reform(int leader, int ballot, int set) {
        index(in(leader, 0, 2));
        L l = ls[leader];
        argument(in(ballot, 0, 299));
        argument(ballot % 3 == leader && ballot > l.ballot);
        argument(in(set, 1, 511) && nodes(set).size() == 3);
        leaderUp(leader);
        l.step = 1;
        l.ballot = ballot;
        l.wanted = set;
        l.stopped.clear();
        l.stopWatermark = 0;
        l.stopEntries.clear();
        l.pickBallot = -1;
        l.pickSet = 0;
        l.seeded.clear();
        l.picked.clear();
        sendAll("STOP", leader, nodes(l.set), l.generation, ballot);
        return air.size();
    }

    int sendSeeds(int leader, Set<Integer> to) {
        L l = ls[leader];
        for (int t : to) {
            Msg m = send("SEED", leader, t, l.generation + 1, l.wanted, l.stopWatermark);
            l.stopEntries.forEach((round, group) -> {
                if (round >= l.stopWatermark) {
                    m.entries.put(round, group);
                }
            });
        }
        return to.size();
    }

    Set<Integer> historyVoters(L l) {
        Set<Integer> all = new TreeSet<>();
        for (int group : l.entries.values()) {
            all.addAll(nodes(group));
        }
        return all;
    }

    public int again(int leader) {
        index(in(leader, 0, 2));
        leaderUp(leader);
        L l = ls[leader];
        int sent = 0;
        if (l.phase.equals("MATCHING")) {
            sent += sendAll("MATCH", leader, without(nodes(l.set), l.matched), l.generation, l.round, l.group);
        }
        if (l.phase.equals("ASKING")) {
            sent += sendAll("ASK", leader, without(historyVoters(l), l.asked), l.round);
        }
        if (l.phase.equals("LEADING")) {
            for (int s : l.proposed.keySet()) {
                if (!l.chosen.contains(s)) {
                    Set<Integer> rest = without(nodes(l.group), l.votersOf.get(s));
                    sent += sendAll("VOTE", leader, rest, l.round, s, l.proposed.get(s));
                } else if (!l.stored.contains(s)) {
                    sent += sendAll("TELL", leader, without(nodes(7), l.copiesOf.get(s)), s, l.proposed.get(s));
                }
            }
            if (l.stage == 1) {
                sent += sendAll("KNOW", leader, without(nodes(l.group), l.knowing), l.round, l.collectNumber);
            }
            if (l.stage == 2) {
                sent += sendAll("COLLECT", leader, without(nodes(l.set), l.collected), l.generation, l.round);
            }
            if (l.stage == 3) {
                sent += sendAll("RELEASE", leader, without(l.releaseTo, l.released), l.round);
            }
        }
        if (l.step == 1) {
            sent += sendAll("STOP", leader, without(nodes(l.set), l.stopped), l.generation, l.ballot);
        }
        if (l.step == 2) {
            sent += sendSeeds(leader, without(nodes(l.wanted), l.seeded));
        }
        if (l.step == 3) {
            sent += sendAll("PICK", leader, without(nodes(l.set), l.picked), l.generation, l.ballot, l.wanted);
        }
        return sent;
    }

    static int number(String kind) {
        return Arrays.asList(KINDS).indexOf(kind);
    }

    public int deliver(int k) {
        index(in(k, 0, air.size() - 1));
        Msg m = air.remove(k);
        int sort = TO_KEEPER.contains(m.kind) ? 1 : TO_VOTER.contains(m.kind) ? 2 : m.kind.equals("TELL") ? 3 : 0;
        if (down.contains(sort + "/" + m.to)) {
            lost++;
            return number(m.kind);
        }
        came++;
        switch (sort) {
            case 0 -> toLeader(m, m.to);
            case 1 -> toKeeper(m, ks[m.to], m.to);
            case 2 -> toVoter(m, vs[m.to]);
            default -> toCopy(m, cs.get(m.to));
        }
        return number(m.kind);
    }

    void toKeeper(Msg m, K k, int self) {
        boolean on = k.state.equals("ON") && k.generation == m.told[0];
        switch (m.kind) {
            case "MATCH" -> {
                if (!on) {
                    gone(k, self, m.from);
                    return;
                }
                int round = m.told[1];
                Integer has = k.entries.get(round);
                int top = k.watermark;
                for (int r : k.entries.keySet()) {
                    top = Math.max(top, r);
                }
                boolean other = has != null && has != m.told[2];
                boolean below = has == null && round < top;
                if (other || below || k.entries.size() >= 12) {
                    send("NO", self, m.from, round, top);
                } else {
                    k.entries.put(round, m.told[2]);
                    Msg r = send("MATCHED", self, m.from, k.generation, round, k.watermark);
                    r.entries.putAll(k.entries.headMap(round));
                }
            }
            case "COLLECT" -> {
                if (!on) {
                    gone(k, self, m.from);
                    return;
                }
                k.entries.headMap(m.told[1]).clear();
                if (k.watermark < m.told[1]) {
                    k.watermark = m.told[1];
                }
                send("COLLECTED", self, m.from, m.told[0], m.told[1]);
            }
            case "STOP" -> {
                if (k.next != 0) {
                    gone(k, self, m.from);
                } else if (Set.of("ON", "STOPPED").contains(k.state) && k.generation == m.told[0]
                        && m.told[1] >= k.ballot) {
                    k.ballot = m.told[1];
                    k.state = "STOPPED";
                    Msg r = send("STOPPED", self, m.from, k.generation, k.ballot, k.watermark);
                    r.entries.putAll(k.entries);
                    r.pickBallot = k.pickBallot;
                    r.pickSet = k.pickSet;
                }
            }
            case "SEED" -> {
                boolean off = k.state.equals("OFF");
                boolean ready = k.state.equals("READY") && k.generation <= m.told[0];
                boolean left = k.state.equals("STOPPED") && k.next != 0 && k.generation < m.told[0];
                if (off || ready || left) {
                    K fresh = new K();
                    fresh.state = "READY";
                    fresh.generation = m.told[0];
                    fresh.readyWith = m.told[1];
                    fresh.watermark = m.told[2];
                    fresh.entries.putAll(m.entries);
                    ks[self] = fresh;
                    send("SEEDED", self, m.from, m.told[0]);
                }
            }
            case "PICK" -> {
                if (k.state.equals("STOPPED") && k.generation == m.told[0] && k.next == 0 && m.told[1] >= k.ballot) {
                    k.pickBallot = m.told[1];
                    k.pickSet = m.told[2];
                    k.ballot = m.told[1];
                    send("PICKED", self, m.from, m.told[0], m.told[1]);
                }
            }
            default -> {
                if (k.state.equals("READY") && k.generation == m.told[0] + 1 && k.readyWith == m.told[1]) {
                    k.state = "ON";
                } else if (k.state.equals("STOPPED") && k.generation == m.told[0]) {
                    k.next = m.told[1];
                }
            }
        }
    }

    void gone(K k, int self, int to) {
        if (k.next != 0) {
            send("GONE", self, to, k.generation + 1, k.next);
        }
    }

    void toVoter(Msg m, V v) {
        int round = m.told[0];
        if (m.kind.equals("RELEASE")) {
            v.votes.values().removeIf(vote -> vote.round() < round);
            send("RELEASED", m.to, m.from, round);
            return;
        }
        if (round < v.promised) {
            send("REFUSED", m.to, m.from, round, v.promised);
            return;
        }
        v.promised = round;
        switch (m.kind) {
            case "ASK" -> send("ASKED", m.to, m.from, round, v.knows).votes.putAll(v.votes);
            case "VOTE" -> {
                v.votes.put(m.told[1], new Vote(round, m.told[2]));
                truth(round, m.told[1], m.told[2], m.to);
                send("VOTED", m.to, m.from, round, m.told[1]);
            }
            default -> {
                v.knows = Math.max(v.knows, m.told[1]);
                send("KNOWN", m.to, m.from, round, m.told[1]);
            }
        }
    }

    void truth(int round, int slot, int value, int voter) {
        String which = round + "/" + slot + "/" + value;
        Set<Integer> who = everVoted.computeIfAbsent(which, w -> new TreeSet<>());
        who.add(voter);
        if (majority(who, groupOfRound.get(round)) && reached.add(which)) {
            List<Integer> before = agreedValues.computeIfAbsent(slot, s -> new ArrayList<>());
            if (before.stream().anyMatch(other -> other != value)) {
                breaches++;
            }
            before.add(value);
        }
    }

    void toCopy(Msg m, Map<Integer, Integer> c) {
        c.putIfAbsent(m.told[0], m.told[1]);
        int has = c.get(m.told[0]);
        if (has != m.told[1]) {
            clashes++;
        }
        send("TOLD", m.to, m.from, m.told[0], has);
    }

    void toLeader(Msg m, int self) {
        L l = ls[self];
        boolean leading = l.phase.equals("LEADING");
        switch (m.kind) {
            case "MATCHED" -> {
                if (l.phase.equals("MATCHING") && m.told[1] == l.round && m.told[0] == l.generation) {
                    l.matched.add(m.from);
                    l.watermark = Math.max(l.watermark, m.told[2]);
                    l.entries.putAll(m.entries);
                    if (without(nodes(l.set), l.matched).size() <= 1) {
                        l.entries.headMap(l.watermark).clear();
                        l.phase = "ASKING";
                        if (sendAll("ASK", self, historyVoters(l), l.round) == 0) {
                            lead(self);
                        }
                    }
                }
            }
            case "ASKED" -> {
                if (l.phase.equals("ASKING") && m.told[0] == l.round) {
                    asked(m, l, self);
                }
            }
            case "VOTED" -> {
                if (leading && m.told[0] == l.round) {
                    int slot = m.told[1];
                    l.votersOf.get(slot).add(m.from);
                    if (majority(l.votersOf.get(slot), l.group) && l.chosen.add(slot)) {
                        sendAll("TELL", self, nodes(7), slot, l.proposed.get(slot));
                    }
                }
            }
            case "TOLD" -> {
                int slot = m.told[0];
                if (leading && l.chosen.contains(slot) && l.proposed.get(slot) == m.told[1]) {
                    l.copiesOf.get(slot).add(m.from);
                    if (l.copiesOf.get(slot).size() == 2) {
                        l.stored.add(slot);
                    }
                }
            }
            case "NO", "REFUSED" -> l.phase = m.told[0] == l.round ? "IDLE" : l.phase;
            case "KNOWN", "COLLECTED", "RELEASED" -> lettingGo(m, l, self);
            default -> otherKeepers(m, l, self);
        }
    }

    void asked(Msg m, L l, int self) {
        l.asked.add(m.from);
        l.known = Math.max(l.known, m.told[1]);
        m.votes.forEach((slot, vote) -> {
            Vote best = l.votes.get(slot);
            if (best == null || best.round() < vote.round()) {
                l.votes.put(slot, vote);
            }
        });
        for (int group : l.entries.values()) {
            if (!majority(l.asked, group)) {
                return;
            }
        }
        lead(self);
    }

    void lead(int self) {
        L l = ls[self];
        l.phase = "LEADING";
        l.base = Math.max(l.known, l.votes.isEmpty() ? 0 : l.votes.lastKey() + 1);
        for (int s = 0; s < l.known; s++) {
            l.settled.add(s);
        }
        for (int s = l.known; s < l.base; s++) {
            put(self, s, l.votes.containsKey(s) ? l.votes.get(s).value() : 0);
        }
        l.next = l.base;
    }

    void lettingGo(Msg m, L l, int self) {
        boolean leading = l.phase.equals("LEADING");
        if (m.kind.equals("KNOWN") && leading && m.told[0] == l.round && l.stage == 1 && m.told[1] == l.collectNumber) {
            l.knowing.add(m.from);
            if (majority(l.knowing, l.group)) {
                l.stage = 2;
                sendAll("COLLECT", self, nodes(l.set), l.generation, l.round);
            }
        }
        if (m.kind.equals("COLLECTED") && leading && m.told[1] == l.round && l.stage == 2
                && m.told[0] == l.generation) {
            l.collected.add(m.from);
            if (l.collected.size() == 2) {
                l.stage = 3;
                l.releaseTo = historyVoters(l);
                sendAll("RELEASE", self, l.releaseTo, l.round);
                l.entries.clear();
            }
        }
        if (m.kind.equals("RELEASED") && l.stage == 3 && m.told[0] == l.round) {
            l.released.add(m.from);
        }
    }

    void otherKeepers(Msg m, L l, int self) {
        boolean mine = m.told[0] == l.generation && m.told[1] == l.ballot;
        switch (m.kind) {
            case "STOPPED" -> {
                if (l.step == 1 && mine) {
                    l.stopped.add(m.from);
                    l.stopWatermark = Math.max(l.stopWatermark, m.told[2]);
                    l.stopEntries.putAll(m.entries);
                    if (m.pickBallot > l.pickBallot) {
                        l.pickBallot = m.pickBallot;
                        l.pickSet = m.pickSet;
                    }
                    if (l.stopped.size() == 2 && l.pickBallot >= 0) {
                        l.wanted = l.pickSet;
                        pick(self);
                    } else if (l.stopped.size() == 2) {
                        l.step = 2;
                        sendSeeds(self, nodes(l.wanted));
                    }
                }
            }
            case "SEEDED" -> {
                if (l.step == 2 && m.told[0] == l.generation + 1) {
                    l.seeded.add(m.from);
                    if (l.seeded.containsAll(nodes(l.wanted))) {
                        pick(self);
                    }
                }
            }
            case "PICKED" -> {
                if (l.step == 3 && mine) {
                    l.picked.add(m.from);
                    if (l.picked.size() == 2) {
                        sendAll("MOVED", self, nodes(l.set), l.generation, l.wanted);
                        sendAll("MOVED", self, nodes(l.wanted), l.generation, l.wanted);
                        goOn(l, l.wanted, l.generation + 1);
                    }
                }
            }
            default -> {
                if (l.generation < m.told[0]) {
                    goOn(l, m.told[1], m.told[0]);
                }
            }
        }
    }

    void pick(int self) {
        L l = ls[self];
        l.step = 3;
        sendAll("PICK", self, nodes(l.set), l.generation, l.ballot, l.wanted);
    }

    void goOn(L l, int set, int generation) {
        l.set = set;
        l.generation = generation;
        l.step = 0;
        if (l.phase.equals("MATCHING")) {
            l.matched.clear();
            l.watermark = 0;
            l.entries.clear();
        }
        l.collected.clear();
    }

    public int run(int n) {
        argument(in(n, 0, 2000));
        int times = 0;
        for (; times < n && !air.isEmpty(); times++) {
            deliver(0);
        }
        return times;
    }

    public int lose(int k) {
        index(in(k, 0, air.size() - 1));
        return number(air.remove(k).kind);
    }

    public int twice(int k) {
        index(in(k, 0, air.size() - 1));
        Msg m = air.get(k);
        Msg other = send(m.kind, m.from, m.to, m.told);
        other.entries.putAll(m.entries);
        other.votes.putAll(m.votes);
        other.pickBallot = m.pickBallot;
        other.pickSet = m.pickSet;
        return air.size();
    }

    public boolean up(int sort, int node, boolean is) {
        index(in(sort, 0, 3));
        index(in(node, 0, new int[] {3, 9, 12, 3}[sort] - 1));
        String which = sort + "/" + node;
        return is ? !down.remove(which) : down.add(which);
    }

    public int message(int k, int what) {
        index(in(k, 0, air.size() - 1));
        Msg m = air.get(k);
        return switch (what) {
            case 0 -> number(m.kind);
            case 1 -> m.from;
            case 2 -> m.to;
            case 3, 4, 5 -> m.told[what - 3];
            case 6 -> m.entries.size() + m.votes.size();
            case 7 -> m.pickBallot;
            case 8 -> m.pickSet;
            default -> throw new IndexOutOfBoundsException();
        };
    }

    public int leader(int leader, int what) {
        index(in(leader, 0, 2) && in(what, 0, 13));
        L l = ls[leader];
        boolean leading = l.phase.equals("LEADING");
        return switch (what) {
            case 0 -> List.of("IDLE", "MATCHING", "ASKING", "LEADING").indexOf(l.phase);
            case 1 -> l.round;
            case 2 -> l.group;
            case 3 -> l.generation;
            case 4 -> l.set;
            case 5 -> l.entries.size();
            case 6 -> leading ? l.base : 0;
            case 7 -> leading ? l.next : 0;
            case 8 -> leading ? l.known : 0;
            case 9 -> leading ? firm(l) : 0;
            case 10 -> l.stage;
            case 11 -> l.step;
            case 12 -> l.wanted;
            default -> bits(l.stage == 3 ? l.released : l.asked);
        };
    }

    public int slot(int leader, int slot, int what) {
        index(in(leader, 0, 2) && in(slot, 0, 15) && in(what, 0, 3));
        L l = ls[leader];
        return switch (what) {
            case 0 -> {
                if (!l.phase.equals("LEADING")) {
                    yield 0;
                }
                yield l.settled.contains(slot) ? 4 : l.stored.contains(slot) ? 3
                        : l.chosen.contains(slot) ? 2 : l.proposed.containsKey(slot) ? 1 : 0;
            }
            case 1 -> l.proposed.getOrDefault(slot, -1);
            case 2 -> bits(l.votersOf.getOrDefault(slot, Set.of()));
            default -> bits(l.copiesOf.getOrDefault(slot, Set.of()));
        };
    }

    public int keeper(int keeper, int what) {
        index(in(keeper, 0, 8) && in(what, 0, 7));
        K k = ks[keeper];
        return switch (what) {
            case 0 -> List.of("OFF", "READY", "ON", "STOPPED").indexOf(k.state);
            case 1 -> k.generation;
            case 2 -> k.watermark;
            case 3 -> k.entries.size();
            case 4 -> k.ballot;
            case 5 -> k.pickBallot;
            case 6 -> k.pickSet;
            default -> k.next;
        };
    }

    public int entry(int keeper, int i, boolean group) {
        index(in(keeper, 0, 8) && in(i, 0, ks[keeper].entries.size() - 1));
        List<Map.Entry<Integer, Integer>> all = new ArrayList<>(ks[keeper].entries.entrySet());
        return group ? all.get(i).getValue() : all.get(i).getKey();
    }

    public int voter(int voter, int what) {
        index(in(voter, 0, 11) && in(what, 0, 2));
        V v = vs[voter];
        return what == 0 ? v.promised : what == 1 ? v.knows : v.votes.size();
    }

    public int vote(int voter, int slot, boolean value) {
        index(in(voter, 0, 11) && in(slot, 0, 15));
        Vote vote = vs[voter].votes.get(slot);
        return vote == null ? -1 : value ? vote.value() : vote.round();
    }

    public int copy(int copy, int slot) {
        index(in(copy, 0, 2) && in(slot, 0, 15));
        return cs.get(copy).getOrDefault(slot, -1);
    }

    public int agreed(int slot) {
        index(in(slot, 0, 15));
        return agreedValues.containsKey(slot) ? agreedValues.get(slot).get(0) : -1;
    }

    public int count(int what) {
        index(in(what, 0, 5));
        return new int[] {air.size(), lost, came, clashes, breaches, groupOfRound.size()}[what];
    }
}
