/** The example of README.md answers what its comments say. */
public final class ReadmeTest {
    public static void main(String[] args) {
        Face x = new Real();
        Check.dues(x, "begin 0 0 7 = 3", "run 100 = 6", "leader 0 0 = 3");
        Check.dues(x, "propose 0 42 = 0", "run 100 = 12", "agreed 0 = 42");
        Check.dues(x, "collect 0 = true", "run 100 = 12", "leader 0 10 = 3");
        Check.dues(x, "reform 1 1 56 = 3", "run 100 = 24", "leader 1 4 = 56");
        Check.dues(x, "begin 2 2 56 = 3", "run 100 = 6", "leader 2 0 = 1", "leader 2 4 = 56");
        Check.dues(x, "again 2 = 3", "run 100 = 12", "slot 2 0 0 = 4", "leader 2 0 = 3");
        Check.end();
    }
}
