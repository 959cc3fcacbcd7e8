import java.util.Arrays;

/** Compares answers with those that are due, and ends a test with exit code 1 if one was another. */
final class Check {
    private static int wrong;
    private static int asked;

    static void that(String what, boolean is) {
        asked++;
        if (!is) {
            wrong++;
            System.out.println("not so: " + what);
        }
    }

    /** Makes the call, as in "begin 0 0 7", and compares its answer, as text. */
    static void due(Face x, String call, Object want) {
        String got = answer(x, call);
        that(call + " answered " + got + ", due is " + want, got.equals(String.valueOf(want)));
    }

    static void dues(Face x, String... callsAndAnswers) {
        for (String each : callsAndAnswers) {
            String[] parts = each.split(" = ");
            due(x, parts[0], parts[1]);
        }
    }

    /** The call throws this exception and changes nothing. */
    static void refused(Face x, String call, Class<?> exception) {
        int[] before = State.of(x);
        due(x, call, "throws." + exception.getSimpleName());
        that(call + " changes nothing", Arrays.equals(before, State.of(x)));
    }

    static void index(Face x, String... calls) {
        for (String call : calls) {
            refused(x, call, IndexOutOfBoundsException.class);
        }
    }

    static void argument(Face x, String... calls) {
        for (String call : calls) {
            refused(x, call, IllegalArgumentException.class);
        }
    }

    static void state(Face x, String... calls) {
        for (String call : calls) {
            refused(x, call, IllegalStateException.class);
        }
    }

    static String answer(Face x, String call) {
        String[] p = call.split(" ");
        try {
            return of(x, p[0], p);
        } catch (RuntimeException e) {
            return "throws." + e.getClass().getSimpleName();
        }
    }

    private static int n(String[] p, int i) {
        return Integer.parseInt(p[i]);
    }

    private static boolean b(String[] p, int i) {
        return Boolean.parseBoolean(p[i]);
    }

    private static String of(Face x, String name, String[] p) {
        switch (name) {
            case "collect":
                return String.valueOf(x.collect(n(p, 1)));
            case "up":
                return String.valueOf(x.up(n(p, 1), n(p, 2), b(p, 3)));
            case "clear":
                x.clear();
                return "done";
            default:
                return String.valueOf(number(x, name, p));
        }
    }

    private static int number(Face x, String name, String[] p) {
        return switch (name) {
            case "begin" -> x.begin(n(p, 1), n(p, 2), n(p, 3));
            case "propose" -> x.propose(n(p, 1), n(p, 2));
            case "reform" -> x.reform(n(p, 1), n(p, 2), n(p, 3));
            case "again" -> x.again(n(p, 1));
            case "deliver" -> x.deliver(n(p, 1));
            case "run" -> x.run(n(p, 1));
            case "lose" -> x.lose(n(p, 1));
            case "twice" -> x.twice(n(p, 1));
            case "message" -> x.message(n(p, 1), n(p, 2));
            case "leader" -> x.leader(n(p, 1), n(p, 2));
            case "slot" -> x.slot(n(p, 1), n(p, 2), n(p, 3));
            case "keeper" -> x.keeper(n(p, 1), n(p, 2));
            case "entry" -> x.entry(n(p, 1), n(p, 2), b(p, 3));
            case "voter" -> x.voter(n(p, 1), n(p, 2));
            case "vote" -> x.vote(n(p, 1), n(p, 2), b(p, 3));
            case "copy" -> x.copy(n(p, 1), n(p, 2));
            case "agreed" -> x.agreed(n(p, 1));
            case "count" -> x.count(n(p, 1));
            default -> throw new AssertionError("no such call: " + name);
        };
    }

    /** Begins a round and lets all messages come: the leader leads then. */
    static void lead(Face x, int leader, int round, int group) {
        x.begin(leader, round, group);
        x.run(2000);
        due(x, "leader " + leader + " 0", 3);
    }

    static void end() {
        System.out.println(asked + " checks, " + wrong + " wrong");
        if (wrong != 0) {
            System.exit(1);
        }
    }
}
