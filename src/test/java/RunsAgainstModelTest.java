/** Long runs of calls of all kinds, always the same ones, compared with the model. */
public final class RunsAgainstModelTest {
    private static final int RUNS = 6000;

    public static void main(String[] args) {
        Due due = new Due("RunsAgainstModelTest");
        for (int run = 0; run < RUNS && !due.isWrong(); run++) {
            due.part("run " + run);
            Twin twin = new Twin(due);
            RandomCalls calls = new RandomCalls(twin, new Chance(run));
            while (!twin.isOver()) {
                calls.any();
            }
        }
        due.end();
    }
}
