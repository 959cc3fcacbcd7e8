/** Promise 6 (again): what is not answered is sent again, and nothing else. */
public final class AgainTest {
    public static void main(String[] args) {
        idle();
        matching();
        asking();
        leading();
        stages();
        steps();
        bothPartsInOrder();
        lostOnesCount();
        wrongInputs();
        Check.end();
    }

    private static void drop(Face x) {
        while (x.count(0) > 0) {
            x.lose(0);
        }
    }

    /** The messages of the air are of these kinds, to these nodes. */
    private static void air(Face x, int... kindsAndNodes) {
        Check.due(x, "count 0", kindsAndNodes.length / 2);
        for (int i = 0; i < kindsAndNodes.length / 2; i++) {
            Check.due(x, "message " + i + " 0", kindsAndNodes[2 * i]);
            Check.due(x, "message " + i + " 2", kindsAndNodes[2 * i + 1]);
        }
    }

    private static void idle() {
        Face x = new Real();
        Check.dues(x, "again 0 = 0", "again 1 = 0", "again 2 = 0", "count 0 = 0");
        Check.dues(x, "begin 1 4 1 = 3", "run 99 = 6", "begin 0 3 1 = 3", "run 4 = 4", "leader 0 0 = 0");
        drop(x);
        Check.dues(x, "again 0 = 0", "reform 0 0 56 = 3");
        drop(x);
        Check.due(x, "again 0", 3);
        air(x, 16, 0, 16, 1, 16, 2);
    }

    private static void matching() {
        Face x = new Real();
        Check.dues(x, "begin 2 5 9 = 3", "deliver 1 = 1", "deliver 2 = 2");
        drop(x);
        Check.due(x, "again 2", 2);
        air(x, 1, 0, 1, 2);
        Check.dues(x, "message 0 1 = 2", "message 0 3 = 0", "message 0 4 = 5", "message 0 5 = 9", "again 2 = 2",
                "count 0 = 4", "run 2 = 2", "run 2 = 2", "run 1 = 1", "leader 2 0 = 3");
    }

    private static void asking() {
        Face x = new Real();
        Check.dues(x, "begin 0 0 7 = 3", "run 99 = 6", "begin 1 1 20 = 3", "run 6 = 6", "deliver 1 = 3", "deliver 2 = 4",
                "leader 1 0 = 2");
        drop(x);
        Check.due(x, "again 1", 2);
        air(x, 3, 0, 3, 2);
        Check.dues(x, "message 0 3 = 1", "message 0 4 = 0", "message 0 1 = 1", "run 99 = 4", "leader 1 0 = 3",
                "again 1 = 0");
    }

    private static void leading() {
        Face x = new Real();
        Check.dues(x, "begin 0 0 7 = 3", "run 99 = 6", "propose 0 5 = 0", "propose 0 6 = 1", "propose 0 7 = 2");
        Check.dues(x, "deliver 1 = 5", "deliver 2 = 5", "deliver 2 = 5", "deliver 6 = 6", "slot 0 0 2 = 2",
                "deliver 6 = 6", "slot 0 1 2 = 1", "deliver 6 = 6", "slot 0 1 2 = 3", "slot 0 1 0 = 2");
        Check.dues(x, "deliver 6 = 7", "deliver 6 = 7", "deliver 7 = 8", "slot 0 1 3 = 1");
        drop(x);
        Check.due(x, "again 0", 2 + 2 + 3);
        air(x, 5, 0, 5, 2, 7, 1, 7, 2, 5, 0, 5, 1, 5, 2);
        Check.dues(x, "message 0 3 = 0", "message 0 4 = 0", "message 0 5 = 5", "message 2 3 = 1", "message 2 4 = 6",
                "message 2 1 = 0", "message 4 3 = 0", "message 4 4 = 2", "message 4 5 = 7");
        x.run(2000);
        Check.dues(x, "leader 0 9 = 3", "again 0 = 0");
    }

    private static void stages() {
        Face x = new Real();
        Check.dues(x, "begin 0 0 7 = 3", "run 99 = 6", "propose 0 5 = 0", "run 99 = 12", "begin 1 1 56 = 3",
                "run 99 = 24", "collect 1 = true", "deliver 1 = 9", "deliver 2 = 10", "leader 1 10 = 1");
        drop(x);
        Check.dues(x, "propose 1 8 = 1");
        drop(x);
        Check.due(x, "again 1", 5);
        air(x, 5, 3, 5, 4, 5, 5, 9, 3, 9, 5);
        Check.dues(x, "message 3 3 = 1", "message 3 4 = 1", "run 99 = 28", "leader 1 10 = 3");
        Check.dues(x, "collect 1 = true", "leader 1 9 = 2", "run 6 = 6", "leader 1 10 = 2", "deliver 2 = 11",
                "deliver 2 = 12");
        drop(x);
        Check.due(x, "again 1", 2);
        air(x, 11, 0, 11, 1);
        Check.dues(x, "message 0 3 = 0", "message 0 4 = 1", "run 99 = 4", "leader 1 10 = 3", "again 1 = 0");
        releases();
    }

    private static void releases() {
        Face x = new Real();
        Check.dues(x, "begin 0 0 7 = 3", "run 99 = 6", "begin 1 1 56 = 3", "run 99 = 12", "begin 2 2 1 = 3",
                "run 99 = 18", "collect 2 = true", "run 2 = 2", "run 6 = 6", "leader 2 10 = 3", "count 0 = 6",
                "deliver 2 = 13", "deliver 5 = 14", "leader 2 13 = 4");
        drop(x);
        Check.due(x, "again 2", 5);
        air(x, 13, 0, 13, 1, 13, 3, 13, 4, 13, 5);
        Check.dues(x, "message 0 3 = 2", "message 0 1 = 2", "run 99 = 10", "leader 2 13 = 63", "again 2 = 0");
    }

    private static void steps() {
        Face x = new Real();
        Check.dues(x, "begin 2 2 1 = 3", "run 99 = 6", "reform 0 3 448 = 3", "deliver 1 = 16", "deliver 2 = 17");
        drop(x);
        Check.due(x, "again 0", 2);
        air(x, 16, 0, 16, 2);
        Check.dues(x, "message 0 3 = 0", "message 0 4 = 3", "run 3 = 3", "leader 0 11 = 2", "lose 0 = 17",
                "deliver 1 = 18", "deliver 2 = 19");
        drop(x);
        Check.due(x, "again 0", 2);
        air(x, 18, 6, 18, 8);
        Check.dues(x, "message 0 3 = 1", "message 0 4 = 448", "message 0 5 = 0", "message 0 6 = 1", "run 4 = 4",
                "leader 0 11 = 3", "keeper 8 3 = 1", "deliver 2 = 20", "deliver 2 = 21");
        drop(x);
        Check.due(x, "again 0", 2);
        air(x, 20, 0, 20, 1);
        Check.dues(x, "message 0 3 = 0", "message 0 4 = 3", "message 0 5 = 448", "run 3 = 3", "leader 0 11 = 0",
                "leader 0 3 = 1");
        drop(x);
        Check.due(x, "again 0", 0);
    }

    private static void bothPartsInOrder() {
        Face x = new Real();
        Check.dues(x, "begin 0 0 1 = 3", "run 99 = 6", "reform 0 0 56 = 3", "propose 0 5 = 0", "collect 0 = true");
        drop(x);
        Check.due(x, "again 0", 5);
        air(x, 5, 0, 9, 0, 16, 0, 16, 1, 16, 2);
        drop(x);
        Check.dues(x, "begin 0 3 1 = 3");
        drop(x);
        Check.due(x, "again 0", 6);
        air(x, 1, 0, 1, 1, 1, 2, 16, 0, 16, 1, 16, 2);
    }

    private static void lostOnesCount() {
        Face x = new Real();
        Check.due(x, "begin 0 0 1", 3);
        for (int i = 0; i < 132; i++) {
            Check.due(x, "again 0", 3);
        }
        Check.dues(x, "count 0 = 399", "count 1 = 0", "again 0 = 3", "count 0 = 400", "count 1 = 2", "again 0 = 3",
                "count 0 = 400", "count 1 = 5", "begin 1 1 1 = 400", "count 1 = 8", "leader 1 0 = 1",
                "reform 2 2 7 = 400", "count 1 = 11");
    }

    private static void wrongInputs() {
        Face x = new Real();
        Check.due(x, "begin 1 1 1", 3);
        Check.index(x, "again -1", "again 3", "again -2147483648");
        Check.dues(x, "up 0 1 false = true");
        Check.state(x, "again 1");
        Check.index(x, "again 3");
        Check.dues(x, "again 0 = 0", "up 0 1 true = false", "again 1 = 3");
    }
}
