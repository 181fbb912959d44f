/** Promises 1 to 9: a new object, land, cell, takes, wall, gates, way, move, many. */
public final class LandTest {
    public static void main(String[] args) {
        newObject();
        land();
        landTakesAllElse();
        cell();
        takes();
        wall();
        gates();
        way();
        wayOfFewestMoves();
        move();
        many();
        manyAtMost();
        fixedByRunner();
        Check.end();
    }

    private static void newObject() {
        MapRun x = new MapRun();
        Check.same("way in a new land", x.way(0, 0, 0, 0), 0);
        Check.noSuch("a second cell", () -> x.way(0, 0, 1, 0));
        Check.noSuch("a cell below", () -> x.way(0, 1, 0, 0));
        for (int what = 0; what < 8; what++) {
            Check.same("count " + what, x.count(what), 0);
        }
        Check.same("fault", x.fault(), MapRun.NONE);
        Check.same("NONE", MapRun.NONE, -1);
    }

    private static void land() {
        MapRun x = new MapRun();
        Check.yes("land(20, 20)", x.land(20, 20));
        Check.same("corner", x.way(19, 19, 19, 19), 0);
        Check.no("land(0, 5)", x.land(0, 5));
        Check.no("land(5, 0)", x.land(5, 0));
        Check.no("land(21, 5)", x.land(21, 5));
        Check.no("land(5, 21)", x.land(5, 21));
        Check.no("land(-1, 5)", x.land(-1, 5));
        Check.no("land least", x.land(Integer.MIN_VALUE, Integer.MAX_VALUE));
        Check.same("a land refused leaves the old one", x.way(0, 0, 19, 19), 38 * 5);
        Check.yes("land(1, 20)", x.land(1, 20));
        Check.noSuch("x 1", () -> x.way(0, 0, 1, 0));
        Check.same("down", x.way(0, 0, 0, 19), 19 * 5);
    }

    private static void landTakesAllElse() {
        MapRun x = new MapRun();
        x.land(3, 3);
        x.takes(0, 7);
        x.takes(8, 9);
        x.cell(1, 0, 1, 50);
        x.wall(0, 0, 1, true);
        x.gates(2, 2, 1, 1);
        x.post(1, 1, 5);
        x.course(true);
        x.add(0, 0, 0, 0);
        x.best(0, 500);
        x.way(0, 0, 1, 0);
        x.runner(0, 0, 0);
        x.go(5);
        x.event(2, 0, 0, 1);
        x.protest(0);
        Check.same("rules", Check.rules(x, "set gap 5; set limit 6; set window 7;"), 0);
        Check.same("fault", Check.rules(x, "  ?"), 1);
        Check.same("fault at", x.fault(), 2);
        x.feed(1, 2, 3, 4, 5);
        Check.yes("anew", x.land(3, 2));
        for (int what = 0; what < 7; what++) {
            Check.same("count " + what, x.count(what), 0);
        }
        Check.same("the tape stays", x.count(7), 20);
        Check.same("limit", x.count(8), 3600);
        Check.same("gap", x.count(9), 60);
        Check.same("window", x.count(10), 900);
        Check.same("fault", x.fault(), -1);
        Check.noSuch("no way is kept", () -> x.move(-1));
        Check.noSuch("no best is kept", () -> x.bestOf(0));
        Check.same("seconds, heights and walls", x.way(0, 0, 1, 0), 5);
        x.cell(1, 0, 0, 1);
        Check.same("climb", x.way(0, 0, 1, 0), 7);
        x.course(true);
        Check.same("the gates", x.best(0, 0), 0);
        x.takes(1, 9);
        Check.same("ground 0 again", x.way(0, 0, 1, 0), 7);
        x.land(3, 3);
        x.wall(0, 0, 2, true);
        x.land(3, 3);
        Check.same("no wall below", x.way(0, 0, 0, 1), 5);
    }

    private static void cell() {
        MapRun x = new MapRun();
        x.land(4, 3);
        Check.yes("cell", x.cell(3, 2, 7, 99));
        Check.same("its climb", x.way(3, 1, 3, 2), 5 + 99 * 2);
        Check.same("none downhill", x.way(3, 2, 3, 1), 5);
        Check.no("ground 8", x.cell(0, 0, 8, 0));
        Check.no("ground -1", x.cell(0, 0, -1, 0));
        Check.no("height 100", x.cell(0, 0, 0, 100));
        Check.no("height -1", x.cell(0, 0, 0, -1));
        Check.noSuch("x 4", () -> Check.of(x.cell(4, 0, 0, 0)));
        Check.noSuch("y 3", () -> Check.of(x.cell(0, 3, 0, 0)));
        Check.noSuch("x -1, and a ground that is none", () -> Check.of(x.cell(-1, 0, 9, 0)));
        Check.noSuch("y least", () -> Check.of(x.cell(0, Integer.MIN_VALUE, 0, 0)));
        x.takes(1, 0);
        Check.yes("barred", x.cell(1, 1, 1, 0));
        Check.same("post on it", x.post(1, 1, 1), -1);
        Check.same("post", x.post(2, 1, 1), 0);
        Check.no("barred under a post", x.cell(2, 1, 1, 0));
        Check.yes("another ground under it", x.cell(2, 1, 2, 3));
        Check.no("that ground barred", x.takes(2, 0));
    }

    private static void takes() {
        MapRun x = new MapRun();
        x.land(2, 1);
        Check.yes("99", x.takes(0, 99));
        Check.same("99 seconds", x.way(0, 0, 1, 0), 99);
        Check.no("100", x.takes(0, 100));
        Check.no("-1", x.takes(0, -1));
        Check.noSuch("ground 9", () -> Check.of(x.takes(9, 1)));
        Check.noSuch("ground -1", () -> Check.of(x.takes(-1, 1)));
        Check.yes("climb 9", x.takes(8, 9));
        Check.no("climb 10", x.takes(8, 10));
        Check.no("climb -1", x.takes(8, -1));
        x.cell(1, 0, 3, 4);
        Check.same("ground 3 with climb", x.way(0, 0, 1, 0), 5 + 36);
        x.post(1, 0, 0);
        Check.yes("climb 0", x.takes(8, 0));
        Check.same("without climb", x.way(0, 0, 1, 0), 5);
        Check.no("a post stands on 3", x.takes(3, 0));
        Check.yes("none on 0", x.takes(0, 0));
        Check.same("0 can't be entered", x.way(1, 0, 0, 0), -1);
        Check.same("but left", x.way(0, 0, 1, 0), 5);
        Check.same("and stayed in", x.way(0, 0, 0, 0), 0);
    }

    private static void wall() {
        MapRun x = new MapRun();
        x.land(2, 2);
        Check.yes("wall", x.wall(0, 0, 1, true));
        Check.same("round it", x.way(0, 0, 1, 0), 15);
        Check.same("from there too", x.way(1, 0, 0, 0), 15);
        Check.yes("wall below", x.wall(0, 0, 2, true));
        Check.same("shut in", x.way(0, 0, 1, 0), -1);
        Check.same("shut out", x.way(1, 1, 0, 0), -1);
        Check.yes("opened", x.wall(0, 0, 2, false));
        Check.same("open", x.way(0, 0, 0, 1), 5);
        Check.yes("none there is fine", x.wall(0, 1, 1, false));
        Check.no("side 0", x.wall(0, 0, 0, true));
        Check.no("side 3", x.wall(1, 1, 3, true));
        Check.no("side -1", x.wall(0, 0, -1, true));
        Check.no("edge right", x.wall(1, 0, 1, true));
        Check.no("edge below", x.wall(0, 1, 2, true));
        Check.noSuch("no cell", () -> Check.of(x.wall(2, 0, 0, true)));
    }

    private static void gates() {
        MapRun x = new MapRun();
        x.land(3, 2);
        x.course(true);
        Check.same("at first both 0, 0", x.best(0, 0), 0);
        x.takes(1, 0);
        x.cell(2, 1, 1, 0);
        Check.yes("gates", x.gates(2, 1, 0, 0));
        Check.same("from a barred start", x.best(0, 15), 0);
        Check.same("its seconds", x.bestOf(1), 15);
        Check.yes("finish barred", x.gates(0, 0, 2, 1));
        Check.same("not to be reached", x.best(0, 1000), -1);
        Check.noSuch("no start", () -> Check.of(x.gates(3, 0, 0, 0)));
        Check.noSuch("no finish", () -> Check.of(x.gates(0, 0, 0, 2)));
    }

    private static void way() {
        MapRun x = new MapRun();
        x.land(3, 3);
        Check.same("corners", x.way(0, 0, 2, 2), 20);
        int[] due = {1, 1, 2, 2};
        for (int i = 0; i < 4; i++) {
            Check.same("first as a row, move " + i, x.move(i), due[i]);
        }
        Check.same("back", x.way(2, 2, 0, 0), 20);
        due = new int[] {0, 0, 3, 3};
        for (int i = 0; i < 4; i++) {
            Check.same("first as a row, move " + i, x.move(i), due[i]);
        }
        x.cell(1, 1, 0, 10);
        Check.same("up and down", x.way(0, 1, 2, 1), 20);
        Check.same("round, by the first row", x.move(0), 0);
        x.takes(8, 0);
        Check.same("straight without climb", x.way(0, 1, 2, 1), 10);
        Check.noSuch("no from", () -> x.way(3, 0, 0, 0));
        Check.noSuch("no to", () -> x.way(0, 0, 0, -1));
    }

    private static void wayOfFewestMoves() {
        MapRun x = new MapRun();
        x.land(3, 2);
        // over (1, 0) one move of 9 and one of 5; by the row below four moves, 2 + 5 + 2 + 5 = 14 too
        x.takes(1, 9);
        x.takes(2, 2);
        x.takes(3, 5);
        x.cell(1, 0, 1, 0);
        x.cell(2, 0, 3, 0);
        x.cell(0, 1, 2, 0);
        x.cell(1, 1, 3, 0);
        x.cell(2, 1, 2, 0);
        Check.same("seconds", x.way(0, 0, 2, 0), 14);
        Check.same("moves", x.move(-1), 2);
        Check.same("many of like seconds", x.many(0, 0, 2, 0), 2);
        x.cell(1, 0, 1, 1);
        Check.same("seconds now", x.way(0, 0, 2, 0), 14);
        Check.same("moves now", x.move(-1), 4);
        Check.same("first down", x.move(0), 2);
    }

    private static void move() {
        MapRun x = new MapRun();
        Check.noSuch("nothing kept, -1", () -> x.move(-1));
        Check.noSuch("nothing kept, 0", () -> x.move(0));
        x.land(3, 1);
        x.way(2, 0, 0, 0);
        Check.same("two", x.move(-1), 2);
        Check.same("left", x.move(1), 3);
        Check.noSuch("2", () -> x.move(2));
        Check.noSuch("-2", () -> x.move(-2));
        Check.noSuch("most", () -> x.move(Integer.MAX_VALUE));
        x.wall(0, 0, 1, true);
        Check.same("no way", x.way(2, 0, 0, 0), -1);
        Check.same("what was kept stays", x.move(-1), 2);
        x.many(2, 0, 1, 0);
        Check.same("many keeps none", x.move(-1), 2);
        Check.same("to itself", x.way(1, 0, 1, 0), 0);
        Check.same("no moves", x.move(-1), 0);
        Check.noSuch("not even the first", () -> x.move(0));
    }

    private static void many() {
        MapRun x = new MapRun();
        x.land(4, 4);
        Check.same("corner to corner", x.many(0, 0, 3, 3), 20);
        Check.same("to itself", x.many(2, 2, 2, 2), 1);
        x.wall(0, 0, 1, true);
        Check.same("first down", x.many(0, 0, 3, 3), 10);
        x.wall(0, 0, 2, true);
        Check.same("none", x.many(0, 0, 3, 3), 0);
        Check.noSuch("no cell", () -> x.many(0, 0, 4, 0));
        Check.noSuch("no cell from", () -> x.many(0, -1, 3, 0));
    }

    private static void manyAtMost() {
        MapRun x = new MapRun();
        x.land(20, 20);
        Check.same("20 by 20", x.many(0, 0, 19, 19), 35345263800L);
        Check.same("above a wall and back below it", halved(2).many(0, 0, 0, 19), 210L * 4059928950L);
        Check.same("more are told so", halved(9).many(0, 0, 0, 19), 1000000000000L);
        Check.same("and to its gap", halved(9).many(0, 0, 19, 10), 6906900L);
    }

    /** A land with a wall below a row that leaves a gap on the right alone. */
    private static MapRun halved(int row) {
        MapRun x = new MapRun();
        x.land(20, 20);
        for (int at = 0; at < 19; at++) {
            x.wall(at, row, 2, true);
        }
        return x;
    }

    private static void fixedByRunner() {
        MapRun x = new MapRun();
        x.land(2, 2);
        x.course(false);
        x.runner(0, 0, 0);
        Check.no("cell", x.cell(0, 0, 0, 0));
        Check.no("takes", x.takes(0, 5));
        Check.no("climb", x.takes(8, 2));
        Check.no("wall", x.wall(0, 0, 1, true));
        Check.no("no wall", x.wall(0, 0, 1, false));
        Check.no("gates", x.gates(0, 0, 0, 0));
        Check.noSuch("but no such cell", () -> Check.of(x.cell(2, 0, 0, 0)));
        Check.noSuch("nor ground", () -> Check.of(x.takes(9, 0)));
        Check.noSuch("nor wall", () -> Check.of(x.wall(0, 2, 1, true)));
        Check.noSuch("nor gate", () -> Check.of(x.gates(0, 0, 2, 0)));
        Check.same("a post can come", x.post(1, 1, 1), 0);
        Check.same("and a course", x.course(true), 1);
        Check.yes("a land anew frees it", x.land(2, 2));
        Check.yes("cell again", x.cell(0, 0, 0, 0));
    }
}
