import java.util.ArrayList;
import java.util.List;
import java.util.Random;

/** Promise 27: draw. */
public final class DrawTest {
    public static void main(String[] args) {
        refused();
        whoIsDrawn();
        order();
        gapAndEnd();
        events();
        everyRowThatIs();
        Check.end();
    }

    private static void refused() {
        MapRun x = Make.clubs(1, 1);
        Check.same("one club", x.draw(0, 1, 0), -1);
        Check.noSuch("course 1", () -> x.draw(1, 1, 0));
        Check.noSuch("course -1", () -> x.draw(-1, 1, -1));
        Check.same("nothing told", x.count(5), 0);
        MapRun y = Make.clubs(1);
        y.go(5);
        Check.same("before now", y.draw(0, 1, 4), -1);
        Check.same("beyond", y.draw(0, 1, 100000), -1);
        Check.same("the last second", y.draw(0, 1, 99999), 1);
        Check.same("its start", y.judged(0, 1, 5), 99999);
        Check.same("nobody left", y.draw(0, 1, 5), 0);
        Check.same("nobody left, before now", y.draw(0, 1, 4), -1);
        Check.same("of an empty course", Make.clubs().draw(0, 1, 99999), 0);
    }

    private static void whoIsDrawn() {
        MapRun x = Make.clubs(0, 1, 2, 3, 4, 5);
        x.course(false);
        x.runner(1, 6, 0);
        x.team(1, 2, 3);
        x.event(0, 4, 0, 77);
        x.event(0, 5, 0, 78);
        x.back(1);
        Check.same("0, 1 and 5", x.draw(0, 9, 10), 3);
        Check.same("the second of a team", x.judged(2, 1, 0), -1);
        Check.same("one told ahead", x.judged(4, 1, 0), 77);
        Check.same("one of another course", x.judged(6, 1, 0), -1);
        int sum = x.judged(0, 1, 0) + x.judged(1, 1, 0) + x.judged(5, 1, 0);
        Check.same("starts at 10, 70, 130", sum, 210);
    }

    /** The shuffle told by hand: seed 0 makes 1442695040888963407, whose highest 31 bits are 167951807. */
    private static void order() {
        Check.same("the highest 31 bits", 1442695040888963407L >>> 33, 167951807L);
        MapRun x = Make.clubs(0, 1);
        x.draw(0, 0, 0);
        // i 1: 167951807 modulo 2 is 1: nothing changes places
        Check.same("first", x.judged(0, 1, 0), 0);
        Check.same("second", x.judged(1, 1, 0), 60);
        MapRun y = Make.clubs(0, 1, 2);
        y.draw(0, 0, 0);
        // i 2: 167951807 modulo 3 is 2: nothing changes places; then the next one, modulo 2
        long next = 1442695040888963407L * 6364136223846793005L + 1442695040888963407L;
        boolean stays = (next >>> 33) % 2 == 1;
        Check.same("2 is last", y.judged(2, 1, 0), 120);
        Check.same("0", y.judged(0, 1, 0), stays ? 0 : 60);
        Check.same("1", y.judged(1, 1, 0), stays ? 60 : 0);
    }

    private static void gapAndEnd() {
        MapRun x = Make.clubs(0, 1, 2);
        Check.rules(x, "set gap 100;");
        Check.same("the last above the end", x.draw(0, 1, 99800), -1);
        Check.same("nothing told", x.count(5), 0);
        Check.same("the last at the end", x.draw(0, 1, 99799), 3);
        MapRun y = Make.clubs(0, 1, 2);
        Check.rules(y, "set gap 0;");
        y.draw(0, 1, 50);
        for (int i = 0; i < 3; i++) {
            Check.same("all at once", y.judged(i, 1, 0), 50);
        }
        MapRun z = Make.clubs(0, 1);
        Check.rules(z, "set gap 99999;");
        Check.same("a wide gap", z.draw(0, 1, 0), 2);
    }

    private static void events() {
        MapRun x = Make.clubs(0, 1, 2);
        x.go(3);
        for (int i = 0; i < 498; i++) {
            x.event(2, 0, 0, 0);
        }
        Check.same("501 events", x.draw(0, 1, 5), -1);
        Check.same("nothing told", x.count(5), 498);
        x.event(0, 1, 0, 0);
        Check.same("two for one left", x.draw(0, 1, 5), -1);
        x.event(0, 0, 0, 0);
        Check.same("none left", x.draw(0, 1, 5), -1);
        MapRun full = Make.clubs(0, 1, 2);
        for (int i = 0; i < 497; i++) {
            full.event(2, 0, 0, 0);
        }
        Check.same("just 500", full.draw(0, 1, 5), 3);
        Check.same("nobody is left, and no room", full.draw(0, 1, 5), 0);
        MapRun y = Make.clubs(3, 3, 4);
        y.go(3);
        Check.same("three", y.draw(0, 7, 5), 3);
        Check.same("told now", y.judged(2, 1, 3), 65);
        Check.same("not ahead", y.judged(2, 1, 2), -1);
        y.back(1);
        Check.same("in that order", y.judged(2, 1, 3), -1);
    }

    /** Held against a search through all rows, for up to seven runners. */
    private static void everyRowThatIs() {
        Random random = new Random(5);
        for (int run = 0; run < 400; run++) {
            int[] clubs = new int[1 + random.nextInt(7)];
            int kinds = 1 + random.nextInt(4);
            for (int i = 0; i < clubs.length; i++) {
                clubs[i] = random.nextInt(kinds);
            }
            long seed = random.nextLong();
            List<Integer> row = new ArrayList<>();
            for (int i = 0; i < clubs.length; i++) {
                row.add(i);
            }
            long state = seed;
            for (int i = clubs.length - 1; i >= 1; i--) {
                state = state * 6364136223846793005L + 1442695040888963407L;
                int j = (int) ((state >>> 33) % (i + 1));
                int moved = row.get(i);
                row.set(i, row.get(j));
                row.set(j, moved);
            }
            List<Integer> due = firstRow(row, clubs, -1);
            MapRun x = Make.clubs(clubs);
            Check.same("draw", x.draw(0, seed, 0), due == null ? -1 : due.size());
            for (int i = 0; due != null && i < due.size(); i++) {
                Check.same("start of " + due.get(i), x.judged(due.get(i), 1, 0), 60 * i);
            }
        }
    }

    private static List<Integer> firstRow(List<Integer> rest, int[] clubs, int ahead) {
        if (rest.isEmpty()) {
            return new ArrayList<>();
        }
        for (int i = 0; i < rest.size(); i++) {
            List<Integer> others = new ArrayList<>(rest);
            int next = others.remove(i);
            List<Integer> found = clubs[next] == ahead ? null : firstRow(others, clubs, clubs[next]);
            if (found != null) {
                found.add(0, next);
                return found;
            }
        }
        return null;
    }
}
