/** Promises 7 to 12: deliver, run, lose, twice, up, message. */
public final class AirTest {
    public static void main(String[] args) {
        deliver();
        downNodes();
        run();
        lose();
        twice();
        twiceKeepsWhatIsTold();
        messagesStayAsSent();
        up();
        fullAir();
        message();
        Check.end();
    }

    private static void deliver() {
        Face x = new Real();
        Check.index(x, "deliver 0", "deliver -1");
        Check.dues(x, "begin 0 0 1 = 3", "begin 1 1 2 = 6", "deliver 4 = 1", "count 0 = 6", "count 2 = 1", "count 1 = 0",
                "keeper 1 3 = 1", "entry 1 0 false = 1", "message 4 0 = 1", "message 4 2 = 2", "message 5 0 = 2",
                "message 5 2 = 1");
        Check.dues(x, "deliver 5 = 2", "leader 1 0 = 1", "deliver 0 = 1", "message 0 2 = 1", "message 0 1 = 0",
                "message 4 0 = 2");
        Check.index(x, "deliver 5", "deliver -1", "deliver 400", "deliver 2147483647", "deliver -2147483648");
        Check.dues(x, "deliver 1 = 1", "deliver 0 = 1", "deliver 0 = 1", "deliver 0 = 1", "count 0 = 5");
        Check.dues(x, "message 0 0 = 2", "message 1 0 = 2", "message 2 0 = 15", "message 3 0 = 2");
    }

    /** Who is DOWN gets nothing, and keeps what it has. */
    private static void downNodes() {
        Face x = new Real();
        Check.dues(x, "begin 0 0 3 = 3", "run 99 = 6", "up 2 0 false = true", "up 3 1 false = true",
                "up 1 2 false = true", "propose 0 5 = 0", "deliver 0 = 5", "count 1 = 1", "count 2 = 6", "count 0 = 1",
                "voter 0 2 = 0", "voter 0 0 = -1", "run 9 = 2", "count 2 = 8", "slot 0 0 2 = 2");
        Check.dues(x, "up 2 0 true = false", "again 0 = 1", "run 1 = 1", "up 0 0 false = true", "deliver 0 = 6",
                "count 1 = 2", "slot 0 0 2 = 2", "leader 0 0 = 3", "up 0 0 true = false", "again 0 = 1", "run 5 = 5",
                "slot 0 0 0 = 2", "count 1 = 3", "copy 0 0 = 5", "copy 1 0 = -1", "copy 2 0 = 5");
        Check.dues(x, "begin 1 1 1 = 5", "run 2 = 2", "slot 0 0 0 = 3", "run 99 = 16", "keeper 2 3 = 1", "count 1 = 5",
                "leader 1 0 = 3");
    }

    private static void run() {
        Face x = new Real();
        Check.dues(x, "run 0 = 0", "run 2000 = 0", "begin 0 0 1 = 3", "run 0 = 0", "count 0 = 3", "count 2 = 0",
                "run 1 = 1", "count 2 = 1", "keeper 0 3 = 1", "keeper 1 3 = 0", "run 2000 = 5", "count 2 = 6",
                "count 0 = 0");
        Check.argument(x, "run -1", "run 2001", "run 2147483647", "run -2147483648");
        Check.dues(x, "begin 1 1 1 = 3");
        Check.argument(x, "run -1", "run 2001");
        Check.dues(x, "up 1 0 false = true", "run 3 = 3", "count 1 = 1", "count 2 = 8");
    }

    private static void lose() {
        Face x = new Real();
        Check.index(x, "lose 0", "lose -1");
        Check.dues(x, "begin 2 2 1 = 3", "lose 1 = 1", "count 0 = 2", "count 1 = 0", "count 2 = 0", "message 1 2 = 2");
        Check.index(x, "lose 2", "lose -1", "lose 2147483647");
        Check.dues(x, "run 2 = 2", "lose 0 = 2", "lose 0 = 2", "run 5 = 0", "leader 2 0 = 1", "keeper 0 3 = 1",
                "keeper 1 3 = 0");
    }

    private static void twice() {
        Face x = new Real();
        Check.index(x, "twice 0", "twice -1");
        Check.dues(x, "begin 2 2 8 = 3", "twice 1 = 4", "message 3 0 = 1", "message 3 1 = 2", "message 3 2 = 1",
                "message 3 3 = 0", "message 3 4 = 2", "message 3 5 = 8", "message 1 2 = 1");
        Check.index(x, "twice 4", "twice -1", "twice -2147483648");
        Check.dues(x, "deliver 3 = 1", "deliver 1 = 1", "keeper 1 3 = 1", "count 0 = 4", "message 2 0 = 2",
                "message 3 0 = 2", "deliver 3 = 2", "deliver 2 = 2", "leader 2 0 = 1");
    }

    private static void twiceKeepsWhatIsTold() {
        Face x = new Real();
        Check.dues(x, "begin 0 0 7 = 3", "run 99 = 6", "propose 0 5 = 0", "propose 0 6 = 1", "run 99 = 24",
                "begin 1 1 8 = 3", "run 1 = 1", "twice 2 = 4", "message 3 0 = 2", "message 3 6 = 1", "run 6 = 6");
        Check.dues(x, "message 0 0 = 3", "run 1 = 1", "message 2 0 = 4", "twice 2 = 4", "message 3 6 = 2",
                "deliver 2 = 4", "deliver 2 = 4", "leader 1 13 = 1", "run 3 = 3", "leader 1 0 = 3",
                "slot 1 1 1 = 6");
        Face y = new Real();
        Check.dues(y, "reform 0 0 56 = 3", "run 12 = 12", "deliver 0 = 20", "lose 2 = 21", "reform 1 1 448 = 5",
                "lose 0 = 20", "lose 0 = 20", "run 1 = 1", "twice 2 = 4", "message 3 0 = 17", "message 3 7 = 0",
                "message 3 8 = 56", "message 3 6 = 0");
        Face z = new Real();
        Check.dues(z, "begin 0 0 7 = 3", "run 99 = 6", "reform 0 0 56 = 3", "run 6 = 6", "twice 0 = 4",
                "message 3 0 = 18", "message 3 6 = 1", "lose 0 = 18", "deliver 2 = 18", "keeper 3 3 = 1");
    }

    /** What is told with a message is what was so when it was sent. */
    private static void messagesStayAsSent() {
        Face x = new Real();
        Check.dues(x, "begin 0 0 1 = 3", "run 99 = 6", "propose 0 5 = 0", "run 99 = 8", "begin 1 1 2 = 3", "run 6 = 6",
                "run 1 = 1", "message 0 0 = 4", "message 0 6 = 1", "begin 2 2 4 = 4", "deliver 1 = 1", "message 3 6 = 2");
        Check.dues(x, "twice 0 = 5", "deliver 0 = 4", "leader 1 0 = 3", "slot 1 0 1 = 5", "message 3 0 = 4",
                "message 3 6 = 1", "message 2 6 = 2");
        Face y = new Real();
        Check.dues(y, "begin 0 0 1 = 3", "run 99 = 6", "propose 0 5 = 0", "begin 1 1 2 = 4", "deliver 1 = 1",
                "deliver 1 = 1", "deliver 2 = 2", "deliver 2 = 2", "message 2 0 = 3", "deliver 2 = 3",
                "message 2 0 = 4", "message 2 6 = 0", "deliver 0 = 5", "voter 0 2 = 0", "message 2 0 = 24");
    }

    private static void up() {
        Face x = new Real();
        int[] nodes = {3, 9, 12, 3};
        for (int sort = 0; sort < 4; sort++) {
            int last = nodes[sort] - 1;
            Check.dues(x, "up " + sort + " " + last + " true = true", "up " + sort + " " + last + " false = true",
                    "up " + sort + " " + last + " false = false", "up " + sort + " 0 true = true",
                    "up " + sort + " " + last + " true = false", "up " + sort + " " + last + " true = true");
            Check.index(x, "up " + sort + " " + nodes[sort] + " true", "up " + sort + " -1 false");
        }
        Check.index(x, "up -1 0 true", "up 4 0 true", "up 4 99 false", "up -2147483648 0 true", "up 0 2147483647 true");
    }

    private static void fullAir() {
        Face x = new Real();
        Check.dues(x, "begin 0 0 31 = 3", "run 99 = 6");
        for (int slot = 0; slot < 16; slot++) {
            x.propose(0, slot + 1);
        }
        for (int i = 0; i < 4; i++) {
            Check.due(x, "again 0", 80);
        }
        Check.dues(x, "count 0 = 400", "count 1 = 0", "twice 7 = 400", "count 1 = 1", "message 399 0 = 5",
                "message 399 2 = 4", "message 399 4 = 15");
        Check.index(x, "message 400 0", "deliver 400", "lose 400", "twice 400");
        Check.dues(x, "lose 399 = 5", "twice 0 = 400", "message 399 4 = 0", "message 399 2 = 0", "deliver 200 = 5",
                "count 0 = 400", "message 399 0 = 6", "count 1 = 1");
        Check.dues(x, "deliver 0 = 5", "deliver 0 = 5", "deliver 0 = 5", "count 0 = 400", "deliver 396 = 6",
                "deliver 396 = 6", "twice 0 = 399", "twice 0 = 400", "message 396 0 = 6", "deliver 396 = 6",
                "slot 0 0 0 = 1", "twice 0 = 400", "count 1 = 1", "deliver 396 = 6");
        Check.dues(x, "slot 0 0 0 = 2", "count 0 = 400", "count 1 = 3", "message 399 0 = 7", "message 399 2 = 0");
    }

    private static void message() {
        Face x = new Real();
        Check.index(x, "message 0 0", "message -1 0");
        Check.due(x, "begin 0 0 1", 3);
        Check.index(x, "message 0 -1", "message 0 9", "message 3 0", "message -1 0", "message 2147483647 8",
                "message 0 2147483647");
        Check.dues(x, "message 0 6 = 0", "message 0 7 = 0", "message 0 8 = 0", "run 99 = 6");
        Check.dues(x, "reform 0 0 56 = 3", "run 3 = 3", "message 0 7 = -1", "message 0 8 = 0", "run 99 = 21");
        Check.dues(x, "reform 0 3 448 = 3", "message 0 7 = 0");
        Check.due(x, "run 99", 24);
        Check.dues(x, "propose 0 9 = 0", "message 0 6 = 0", "message 0 7 = 0", "run 1 = 1", "message 0 5 = 0",
                "message 0 6 = 0");
    }
}
