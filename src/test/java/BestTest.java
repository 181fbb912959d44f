/** Promises 28 and 29: best, bestOf. */
public final class BestTest {
    public static void main(String[] args) {
        refused();
        within();
        likeOnes();
        shutOff();
        samePostTwice();
        twelve();
        Check.end();
    }

    private static void due(MapRun x, int seconds, int points, int set, int took) {
        Check.same("best within " + seconds, x.best(0, seconds), points);
        Check.same("set within " + seconds, x.bestOf(0), set);
        Check.same("seconds within " + seconds, x.bestOf(1), took);
    }

    private static void refused() {
        MapRun x = Make.freeLine(5, 0, 1, 10);
        x.course(false);
        Check.noSuch("none kept", () -> x.bestOf(0));
        Check.noSuch("none kept, seconds", () -> x.bestOf(1));
        Check.same("in order", x.best(1, 100), -1);
        Check.badArgument("seconds -1", () -> x.best(0, -1));
        Check.badArgument("seconds -1, in order", () -> x.best(1, -1));
        Check.noSuch("course 2", () -> x.best(2, 1));
        Check.noSuch("course -1, seconds -1", () -> x.best(-1, -1));
        due(x, 10, 10, 1, 10);
        x.gates(0, 0, 4, 0);
        Check.same("not even none", x.best(0, 19), -1);
        Check.same("what was kept stays", x.bestOf(1), 10);
        Check.same("in order", x.best(1, 100), -1);
        Check.same("what was kept stays", x.bestOf(0), 1);
        Check.noSuch("what 2", () -> x.bestOf(2));
        Check.noSuch("what -1", () -> x.bestOf(-1));
        due(x, 20, 10, 1, 20);
        x.course(true);
        Check.same("a course without posts", x.best(2, 20), 0);
        Check.same("its set", x.bestOf(0), 0);
        Check.same("its seconds", x.bestOf(1), 20);
    }

    private static void within() {
        MapRun end = Make.freeLine(5, 0, 1, 10, 4, 20);
        end.gates(0, 0, 4, 0);
        due(end, 20, 30, 3, 20);
        MapRun x = Make.freeLine(9, 0, 3, 10, 7, 30, 5, 5);
        x.gates(4, 0, 4, 0);
        due(x, 0, 0, 0, 0);
        due(x, 9, 0, 0, 0);
        due(x, 10, 10, 1, 10);
        due(x, 20, 15, 5, 20);
        due(x, 30, 35, 6, 30);
        due(x, 39, 35, 6, 30);
        due(x, 40, 45, 7, 40);
        due(x, Integer.MAX_VALUE, 45, 7, 40);
    }

    private static void likeOnes() {
        MapRun x = Make.freeLine(9, 0, 6, 10, 3, 10, 5, 10);
        x.gates(4, 0, 4, 0);
        due(x, 15, 10, 2, 10);
        MapRun y = Make.freeLine(9, 0, 6, 10, 5, 10);
        y.gates(4, 0, 4, 0);
        due(y, 10, 10, 2, 10);
        due(y, 20, 20, 3, 20);
        MapRun z = Make.freeLine(9, 0, 4, 0, 5, 7, 4, 0, 4, 0);
        z.gates(4, 0, 4, 0);
        due(z, 99, 7, 2, 10);
        due(z, 5, 0, 0, 0);
    }

    private static void shutOff() {
        MapRun x = Make.freeLine(5, 0, 1, 10, 3, 20, 4, 30);
        x.takes(1, 0);
        x.cell(2, 0, 1, 0);
        due(x, 1000, 10, 1, 10);
        x.gates(2, 0, 0, 0);
        due(x, 1000, 10, 1, 10);
        x.gates(4, 0, 3, 0);
        due(x, 1000, 50, 6, 5);
        x.gates(4, 0, 1, 0);
        Check.same("no way at all", x.best(0, Integer.MAX_VALUE), -1);
    }

    private static void samePostTwice() {
        MapRun x = Make.freeLine(5, 0, 1, 10, 3, 20);
        x.add(0, 0, 0, 0);
        due(x, 10, 20, 5, 10);
        due(x, 30, 40, 7, 30);
    }

    /** Twelve posts on a line: the farther half is best left out, each way counted there and back. */
    private static void twelve() {
        int[] posts = new int[24];
        int sum = 0;
        for (int i = 0; i < 12; i++) {
            posts[2 * i] = 19 - i;
            posts[2 * i + 1] = i + 1;
            sum += i + 1;
        }
        MapRun x = Make.freeLine(20, 0, posts);
        due(x, 190, sum, 4095, 190);
        due(x, 189, sum - 1, 4094, 180);
        due(x, 80, 12, 1 << 11, 80);
        due(x, 79, 0, 0, 0);
        x.takes(8, 9);
        x.cell(19, 0, 0, 99);
        due(x, 190, sum - 1, 4094, 180);
        due(x, 190 + 891, sum, 4095, 190 + 891);
    }
}
