/** Promises 10 to 15: post, course, add, runner, row, team. */
public final class CoursesTest {
    public static void main(String[] args) {
        post();
        course();
        add();
        forks();
        runner();
        row();
        length();
        team();
        teamOfForks();
        Check.end();
    }

    private static MapRun fiveInARow(int posts) {
        MapRun x = new MapRun();
        x.land(5, 1);
        x.gates(0, 0, 4, 0);
        for (int i = 0; i < posts; i++) {
            x.post(i % 5, 0, i);
        }
        return x;
    }

    private static void post() {
        MapRun x = fiveInARow(0);
        Check.same("points -1", x.post(0, 0, -1), -1);
        Check.same("points 100", x.post(0, 0, 100), -1);
        Check.noSuch("no cell", () -> x.post(5, 0, 1));
        Check.noSuch("no cell, nor points", () -> x.post(0, 1, 100));
        for (int i = 0; i < 20; i++) {
            Check.same("post " + i, x.post(0, 0, i == 0 ? 99 : 0), i);
        }
        Check.same("the 21st", x.post(0, 0, 0), -1);
        Check.noSuch("no cell for the 21st", () -> x.post(-1, 0, 1));
        Check.same("posts", x.count(1), 20);
    }

    private static void course() {
        MapRun x = new MapRun();
        for (int i = 0; i < 8; i++) {
            Check.same("course " + i, x.course(i % 2 == 0), i);
        }
        Check.same("the 9th", x.course(true), -1);
        Check.same("courses", x.count(2), 8);
    }

    private static void add() {
        MapRun x = fiveInARow(3);
        x.course(false);
        x.course(true);
        for (int i = 1; i <= 12; i++) {
            Check.same("element " + i, x.add(0, i % 3, i % 3, 2), i);
        }
        Check.same("the 13th", x.add(0, 0, 0, 0), -1);
        Check.same("the 13th, a fork", x.add(0, 0, 1, 2), -1);
        Check.same("a fork of a free course", x.add(1, 0, 1, 2), -1);
        Check.same("c counts for nothing", x.add(1, 0, 0, 2), 1);
        Check.noSuch("but must be a post", () -> x.add(1, 0, 0, 3));
        Check.noSuch("b", () -> x.add(1, 0, -1, 0));
        Check.noSuch("a", () -> x.add(1, 3, 3, 0));
        Check.noSuch("a alone", () -> x.add(1, 3, 0, 0));
        Check.noSuch("course", () -> x.add(2, 0, 0, 0));
        Check.noSuch("course -1", () -> x.add(-1, 0, 0, 0));
        Check.noSuch("the 13th, of no post", () -> x.add(0, 0, 0, 20));
        x.runner(1, 0, 0);
        Check.same("a course with a runner", x.add(1, 1, 1, 1), -1);
        Check.same("its row", x.row(0, 0), 0);
        Check.same("one of it", x.row(0, -1), 1);
    }

    private static void forks() {
        MapRun x = fiveInARow(3);
        x.course(false);
        for (int i = 1; i <= 4; i++) {
            Check.same("fork " + i, x.add(0, 0, 1, 2), i);
        }
        Check.same("the 5th fork", x.add(0, 0, 1, 2), -1);
        Check.same("a post", x.add(0, 2, 2, 0), 5);
        Check.same("still no 5th", x.add(0, 1, 0, 0), -1);
        Check.same("where c is a it is a fork", x.course(false), 1);
        Check.same("a, b, a", x.add(1, 0, 1, 0), 1);
        x.runner(1, 0, 1);
        Check.same("its branch 1", x.row(0, 0), 1);
        x.runner(1, 0, 2);
        Check.same("its branch 2", x.row(1, 0), 0);
    }

    private static void runner() {
        MapRun x = new MapRun();
        x.course(false);
        Check.same("club 10", x.runner(0, 10, 0), -1);
        Check.same("club -1", x.runner(0, -1, 0), -1);
        Check.same("variant 81", x.runner(0, 0, 81), -1);
        Check.same("variant -1", x.runner(0, 0, -1), -1);
        Check.noSuch("course 1", () -> x.runner(1, 0, 0));
        Check.noSuch("course -1, and club", () -> x.runner(-1, 10, 0));
        Check.same("none yet, the land still changes", Check.of(x.cell(0, 0, 0, 0)), 1);
        for (int i = 0; i < 40; i++) {
            Check.same("runner " + i, x.runner(0, i % 10, 80 - i * 2), i);
        }
        Check.same("the 41st", x.runner(0, 0, 0), -1);
        Check.same("runners", x.count(3), 40);
    }

    private static void row() {
        MapRun x = fiveInARow(5);
        x.course(false);
        x.add(0, 4, 4, 4);
        x.add(0, 0, 1, 2);
        x.add(0, 3, 3, 3);
        x.add(0, 2, 0, 1);
        x.runner(0, 0, 5);
        x.runner(0, 0, 5 + 27 * 2 + 9);
        int[] due = {4, 2, 3, 0};
        for (int runner = 0; runner < 2; runner++) {
            for (int i = 0; i < 4; i++) {
                Check.same("place " + i, x.row(runner, i), due[i]);
            }
        }
        Check.same("how many", x.row(0, -1), 4);
        Check.noSuch("place 4", () -> x.row(0, 4));
        Check.noSuch("place -2", () -> x.row(0, -2));
        Check.noSuch("place 99", () -> x.row(0, 99));
        Check.noSuch("place 101", () -> x.row(0, 101));
        Check.noSuch("runner 2", () -> x.row(2, -1));
        Check.noSuch("runner -1", () -> x.row(-1, 100));
    }

    private static void length() {
        MapRun x = fiveInARow(5);
        x.course(false);
        x.course(false);
        x.add(0, 3, 3, 3);
        x.add(0, 1, 1, 1);
        x.course(true);
        x.add(2, 2, 2, 2);
        x.add(2, 0, 0, 0);
        x.wall(3, 0, 1, false);
        x.runner(0, 0, 0);
        x.runner(1, 0, 0);
        x.runner(2, 0, 0);
        Check.same("to 3, back to 1, to 4", x.row(0, 100), 5 * (3 + 2 + 3));
        Check.same("an empty row goes straight", x.row(1, 100), 20);
        Check.same("of a free course by its places", x.row(2, 100), 5 * (2 + 2 + 4));
        MapRun y = fiveInARow(5);
        y.wall(2, 0, 1, true);
        y.course(false);
        y.add(0, 1, 1, 1);
        y.runner(0, 0, 0);
        Check.same("no way to the finish", y.row(0, 100), -1);
        Check.same("its row is there", y.row(0, 0), 1);
    }

    private static void team() {
        MapRun x = new MapRun();
        x.post(0, 0, 0);
        x.course(false);
        x.course(false);
        x.course(true);
        for (int i = 0; i < 33; i++) {
            x.runner(0, 0, 0);
        }
        x.runner(1, 0, 0);
        x.runner(2, 0, 0);
        x.runner(2, 0, 0);
        x.runner(2, 0, 0);
        Check.same("twice the same", x.team(0, 0, 1), -1);
        Check.same("first and last the same", x.team(0, 1, 0), -1);
        Check.same("of two courses", x.team(0, 1, 33), -1);
        Check.same("of two courses, the first", x.team(33, 0, 1), -1);
        Check.same("free", x.team(34, 35, 36), -1);
        Check.noSuch("no third", () -> x.team(0, 1, 37));
        Check.noSuch("no first", () -> x.team(-1, 1, 2));
        Check.noSuch("no second", () -> x.team(0, 37, 2));
        for (int i = 0; i < 10; i++) {
            Check.same("team " + i, x.team(3 * i, 3 * i + 1, 3 * i + 2), i);
            Check.same("first in one", x.team(3 * i, 30, 31), -1);
            Check.same("second in one", x.team(30, 3 * i + 1, 31), -1);
            Check.same("third in one", x.team(30, 31, 3 * i + 2), -1);
        }
        Check.same("the 11th", x.team(30, 31, 32), -1);
        Check.noSuch("the 11th of nobody", () -> x.team(30, 31, 40));
        Check.same("teams", x.count(4), 10);
    }

    private static void teamOfForks() {
        MapRun x = fiveInARow(5);
        x.course(false);
        x.add(0, 0, 1, 2);
        x.add(0, 2, 3, 4);
        int[] variants = {0, 1 + 3 * 2, 2 + 3, 2 + 3 * 2, 1 + 3, 1 + 3 * 2 + 9 * 2};
        for (int v : variants) {
            x.runner(0, 0, v);
        }
        Check.same("second fork twice", x.team(0, 1, 3), -1);
        Check.same("first fork twice", x.team(0, 1, 4), -1);
        Check.same("all branches", x.team(2, 0, 1), 0);
        Check.same("one is taken", x.team(5, 0, 2), -1);
        MapRun y = fiveInARow(5);
        y.course(false);
        y.add(0, 0, 1, 0);
        for (int i = 0; i < 3; i++) {
            y.runner(0, 0, i + 3 * i);
        }
        Check.same("branches count, not posts; digits beyond the forks don't", y.team(2, 1, 0), 0);
    }
}
