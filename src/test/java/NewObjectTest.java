import java.lang.reflect.Constructor;
import java.lang.reflect.Field;
import java.lang.reflect.Method;
import java.lang.reflect.Modifier;
import java.util.Arrays;
import java.util.Set;
import java.util.TreeSet;

/** Promises 1 (a new object) and 22 (clear), and the class's face. */
public final class NewObjectTest {
    public static void main(String[] args) {
        face();
        newObject();
        clear();
        twoObjects();
        Check.end();
    }

    private static void face() {
        Check.that("NONE is -1", RoundKeepers.NONE == -1);
        Check.that("the class is public and final",
                Modifier.isPublic(RoundKeepers.class.getModifiers()) && Modifier.isFinal(RoundKeepers.class.getModifiers()));
        Set<String> due = new TreeSet<>();
        for (Method m : Face.class.getDeclaredMethods()) {
            due.add(m.getReturnType() + " " + m.getName() + Arrays.toString(m.getParameterTypes()));
        }
        Set<String> has = new TreeSet<>();
        Set<String> hidden = new TreeSet<>();
        for (Method m : RoundKeepers.class.getDeclaredMethods()) {
            if (Modifier.isPrivate(m.getModifiers())) {
                hidden.add(m.getName());
            } else {
                has.add(m.getReturnType() + " " + m.getName() + Arrays.toString(m.getParameterTypes()));
            }
        }
        Check.that("the methods are those of the document: " + has, has.equals(due));
        for (Method m : Face.class.getDeclaredMethods()) {
            Check.that("no private method is named " + m.getName(), !hidden.contains(m.getName()));
        }
        for (Field f : RoundKeepers.class.getDeclaredFields()) {
            Check.that(f + " is private", Modifier.isPrivate(f.getModifiers()) || f.getName().equals("NONE"));
        }
        Constructor<?>[] made = RoundKeepers.class.getDeclaredConstructors();
        Check.that("there is one public constructor, without parameters",
                made.length == 1 && Modifier.isPublic(made[0].getModifiers()) && made[0].getParameterCount() == 0);
    }

    private static void newObject() {
        Face x = new Real();
        for (int what = 0; what < 6; what++) {
            Check.due(x, "count " + what, 0);
        }
        int[] leaderAtFirst = {0, -1, 0, 0, 7, 0, 0, 0, 0, 0, 0, 0, 0, 0};
        for (int leader = 0; leader < 3; leader++) {
            for (int what = 0; what < leaderAtFirst.length; what++) {
                Check.due(x, "leader " + leader + " " + what, leaderAtFirst[what]);
            }
            for (int slot = 0; slot < 16; slot++) {
                Check.dues(x, "slot " + leader + " " + slot + " 0 = 0", "slot " + leader + " " + slot + " 1 = -1",
                        "slot " + leader + " " + slot + " 2 = 0", "slot " + leader + " " + slot + " 3 = 0");
            }
        }
        int[] onAtFirst = {2, 0, 0, 0, -1, -1, 0, 0};
        int[] offAtFirst = {0, -1, 0, 0, -1, -1, 0, 0};
        for (int keeper = 0; keeper < 9; keeper++) {
            for (int what = 0; what < 8; what++) {
                Check.due(x, "keeper " + keeper + " " + what, (keeper < 3 ? onAtFirst : offAtFirst)[what]);
            }
            Check.index(x, "entry " + keeper + " 0 false");
        }
        for (int voter = 0; voter < 12; voter++) {
            Check.dues(x, "voter " + voter + " 0 = -1", "voter " + voter + " 1 = 0", "voter " + voter + " 2 = 0");
            Check.dues(x, "vote " + voter + " 15 false = -1", "vote " + voter + " 0 true = -1");
        }
        for (int slot = 0; slot < 16; slot++) {
            Check.dues(x, "agreed " + slot + " = -1", "copy 0 " + slot + " = -1", "copy 2 " + slot + " = -1");
        }
        allUp(x);
        Check.index(x, "message 0 0", "deliver 0", "lose 0", "twice 0");
        Check.due(x, "run 2000", 0);
    }

    private static void allUp(Face x) {
        int[] nodes = {3, 9, 12, 3};
        for (int sort = 0; sort < 4; sort++) {
            for (int node = 0; node < nodes[sort]; node++) {
                Check.due(x, "up " + sort + " " + node + " true", true);
            }
        }
    }

    /** Everything is moved away from the beginning, cleared, and then the same calls answer the same again. */
    private static void clear() {
        Face x = new Real();
        int[] atFirst = State.of(x);
        Check.due(x, "clear", "done");
        Check.that("clear of a new object changes nothing", Arrays.equals(atFirst, State.of(x)));
        for (int time = 0; time < 3; time++) {
            String[] calls = {
                "begin 0 0 7", "run 50", "propose 0 5", "propose 0 6", "run 11", "begin 1 1 56", "run 200",
                "collect 1", "run 9", "reform 2 2 56", "run 100", "reform 0 0 448", "begin 2 2 1", "again 2",
                "up 0 1 false", "up 1 4 false", "up 2 3 false", "up 3 2 false", "run 9", "twice 0", "deliver 1"};
            Face other = new Real();
            for (String call : calls) {
                Check.due(x, call, Check.answer(other, call));
            }
            Check.that("the states are the same, run " + time, Arrays.equals(State.of(other), State.of(x)));
            Check.that("the state is not that of the beginning", !Arrays.equals(atFirst, State.of(x)));
            Check.due(x, "clear", "done");
            Check.that("after clear all is as at the beginning", Arrays.equals(atFirst, State.of(x)));
        }
    }

    private static void twoObjects() {
        Face one = new Real();
        Face other = new Real();
        int[] atFirst = State.of(other);
        Check.dues(one, "begin 0 0 7 = 3", "run 50 = 6", "propose 0 5 = 0", "up 0 1 false = true");
        Check.that("one object leaves the other alone", Arrays.equals(atFirst, State.of(other)));
    }
}
