/** Terms 1 and promises 1 to 9, sentence by sentence. */
final class EdgesLand {
    private static final String TERMS = "Terms 1";

    private EdgesLand() { }

    static void all() {
        cells();
        sides();
        grounds();
        heights();
        seconds();
        walls();
        moves();
        notThroughWalls();
        notToBarredGround();
        secondsOfTheGroundComeTo();
        climb();
        toItself();
        longestWay();
        fewestSeconds();
        fewestMoves();
        firstAsARow();
        manyOfFewestSeconds();
        manyAtMost();
        fixedByARunner();
        newObject();
        landTakesTheRace();
        landStartsTheRaceAnew();
        landTakesTheGround();
        landTakesTimeAndFault();
        landLeavesTheTape();
        landRefused();
        cell();
        cellRefused();
        cellUnderAPost();
        takes();
        takesRefused();
        takesUnderAPost();
        wall();
        wallRefused();
        gates();
        way();
        move();
        many();
    }

    private static void cells() {
        Doc.says(TERMS, "THE LAND: CELLS x 0 to w - 1, y 0 to h - 1");
        MapRun x = Make.land(3, 2);
        Check.same("from the last cell", x.way(2, 1, 0, 0), 15);
        Check.same("to the last cell", x.way(0, 0, 2, 1), 15);
        Check.noSuch("x 3", () -> x.way(3, 1, 0, 0));
        Check.noSuch("y 2", () -> x.way(2, 2, 0, 0));
        Check.noSuch("x -1", () -> x.way(-1, 0, 0, 0));
        Check.noSuch("y -1", () -> x.way(0, -1, 0, 0));
        Check.noSuch("to x 3", () -> x.way(0, 0, 3, 0));
        Check.noSuch("to y 2", () -> x.way(0, 0, 0, 2));
        Check.noSuch("to x -1", () -> x.way(0, 0, -1, 0));
        Check.noSuch("to y -1", () -> x.way(0, 0, 0, -1));
        int[] farOff = {4, 19, 20, 21, 400, -2, -20, Integer.MAX_VALUE, Integer.MIN_VALUE};
        for (int off : farOff) {
            Check.noSuch("x " + off, () -> x.way(off, 0, 0, 0));
            Check.noSuch("y " + off, () -> x.way(0, off, 0, 0));
            Check.noSuch("to x " + off, () -> x.way(0, 0, off, 0));
            Check.noSuch("to y " + off, () -> x.way(0, 0, 0, off));
        }
    }

    private static void sides() {
        Doc.says(TERMS, "(w, h 1 to 20)");
        for (int w = 1; w <= 20; w += 19) {
            for (int h = 1; h <= 20; h += 19) {
                MapRun x = new MapRun();
                Check.yes(w + " by " + h, x.land(w, h));
                Check.same("its last cell", x.way(0, 0, w - 1, h - 1), 5 * (w + h - 2));
            }
        }
        Check.no("w 0", new MapRun().land(0, 1));
        Check.no("h 0", new MapRun().land(1, 0));
        Check.no("w 21", new MapRun().land(21, 1));
        Check.no("h 21", new MapRun().land(1, 21));
    }

    private static void grounds() {
        Doc.says(TERMS, "A CELL has a GROUND (0 to 7; 0 at first)");
        MapRun x = Make.land(2, 1);
        x.takes(0, 9);
        x.takes(7, 3);
        Check.same("0 at first", x.way(0, 0, 1, 0), 9);
        Check.yes("7", x.cell(1, 0, 7, 0));
        Check.same("as 7", x.way(0, 0, 1, 0), 3);
        Check.no("8", x.cell(1, 0, 8, 0));
        Check.no("-1", x.cell(1, 0, -1, 0));
        Check.same("still 7", x.way(0, 0, 1, 0), 3);
        Check.yes("0", x.cell(1, 0, 0, 0));
        Check.same("as 0", x.way(0, 0, 1, 0), 9);
    }

    private static void heights() {
        Doc.says(TERMS, "and a HEIGHT (0 to 99; 0 at first)");
        MapRun x = Make.land(2, 1);
        Check.yes("99", x.cell(1, 0, 0, 99));
        Check.same("99 up from 0 at first", x.way(0, 0, 1, 0), 5 + 99 * 2);
        Check.no("100", x.cell(1, 0, 0, 100));
        Check.no("-1", x.cell(1, 0, 0, -1));
        Check.same("still 99", x.way(0, 0, 1, 0), 5 + 99 * 2);
        Check.yes("0", x.cell(1, 0, 0, 0));
        Check.same("level", x.way(0, 0, 1, 0), 5);
    }

    private static void seconds() {
        Doc.says(TERMS, "each GROUND takes SECONDS (0 to 99; 5 at first; 0: it can't be entered)");
        MapRun x = Make.land(2, 1);
        for (int ground = 0; ground < 8; ground++) {
            x.cell(1, 0, ground, 0);
            Check.same("at first, of " + ground, x.way(0, 0, 1, 0), 5);
            Check.yes("99", x.takes(ground, 99));
            Check.same("99", x.way(0, 0, 1, 0), 99);
            Check.no("100", x.takes(ground, 100));
            Check.yes("1", x.takes(ground, 1));
            Check.same("1", x.way(0, 0, 1, 0), 1);
            Check.no("-1", x.takes(ground, -1));
            Check.yes("0", x.takes(ground, 0));
            Check.same("can't be entered", x.way(0, 0, 1, 0), -1);
        }
    }

    private static void walls() {
        Doc.says(TERMS, "Two CELLS side by side may have a WALL between them.");
        MapRun x = Make.land(2, 2);
        x.wall(0, 0, 1, true);
        Check.same("round it by the other three", x.way(0, 0, 1, 0), 15);
        Check.same("none elsewhere", x.way(0, 1, 1, 1), 5);
        x.wall(0, 0, 2, true);
        Check.same("two shut a corner in", x.way(0, 0, 1, 1), -1);
        Check.same("the rest is open", x.way(0, 1, 1, 0), 10);
    }

    private static void moves() {
        Doc.says(TERMS, "A MOVE goes to a CELL beside: 0 y less, 1 x more, 2 y more, 3 x less");
        MapRun x = Make.land(3, 3);
        int[][] beside = {{1, 0}, {2, 1}, {1, 2}, {0, 1}};
        for (int move = 0; move < 4; move++) {
            x.way(1, 1, beside[move][0], beside[move][1]);
            Check.same("one move", x.move(-1), 1);
            Check.same("this one", x.move(0), move);
        }
        Check.same("none goes askew", x.way(1, 1, 2, 2), 10);
        Check.same("none goes over the edge", Make.land(2, 3).way(0, 0, 1, 2), 15);
    }

    private static void notThroughWalls() {
        Doc.says(TERMS, "not through a WALL");
        MapRun x = Make.land(2, 1);
        x.wall(0, 0, 1, true);
        Check.same("x more", x.way(0, 0, 1, 0), -1);
        Check.same("x less", x.way(1, 0, 0, 0), -1);
        MapRun y = Make.land(1, 2);
        y.wall(0, 0, 2, true);
        Check.same("y more", y.way(0, 0, 0, 1), -1);
        Check.same("y less", y.way(0, 1, 0, 0), -1);
        Check.same("none of many", y.many(0, 1, 0, 0), 0);
    }

    private static void notToBarredGround() {
        Doc.says(TERMS, "nor to GROUND that can't be entered.");
        MapRun x = Make.land(3, 1);
        x.takes(1, 0);
        x.cell(1, 0, 1, 0);
        Check.same("to it", x.way(0, 0, 1, 0), -1);
        Check.same("over it", x.way(0, 0, 2, 0), -1);
        Check.same("many over it", x.many(0, 0, 2, 0), 0);
        Check.same("from it", x.way(1, 0, 2, 0), 5);
        Check.same("many from it", x.many(1, 0, 2, 0), 1);
        MapRun up = Make.land(2, 2);
        up.takes(1, 0);
        up.takes(8, 1);
        up.cell(1, 0, 1, 5);
        Check.same("its climb alone would take as long", up.way(0, 0, 1, 1), 10);
        Check.same("yet the way goes round it", up.move(0), 2);
        Check.same("and there is no other", up.many(0, 0, 1, 1), 1);
    }

    private static void secondsOfTheGroundComeTo() {
        Doc.says(TERMS, "It takes SECONDS of the GROUND that it comes to");
        MapRun x = Make.land(2, 1);
        x.takes(1, 7);
        x.takes(2, 30);
        x.cell(0, 0, 1, 0);
        x.cell(1, 0, 2, 0);
        Check.same("to ground 2", x.way(0, 0, 1, 0), 30);
        Check.same("to ground 1", x.way(1, 0, 0, 0), 7);
    }

    private static void climb() {
        Doc.says(TERMS, "and CLIMB (0 to 9; 2 at first) for each that its HEIGHT is more than the one left.");
        MapRun x = Make.land(2, 1);
        x.cell(1, 0, 0, 10);
        Check.same("2 at first", x.way(0, 0, 1, 0), 25);
        Check.same("none down", x.way(1, 0, 0, 0), 5);
        Check.yes("9", x.takes(8, 9));
        Check.same("by 9", x.way(0, 0, 1, 0), 95);
        Check.no("10", x.takes(8, 10));
        Check.no("-1", x.takes(8, -1));
        Check.same("by 9 still", x.way(0, 0, 1, 0), 95);
        Check.yes("0", x.takes(8, 0));
        Check.same("none", x.way(0, 0, 1, 0), 5);
        x.takes(8, 2);
        x.cell(0, 0, 0, 9);
        Check.same("one up", x.way(0, 0, 1, 0), 7);
        x.cell(0, 0, 0, 10);
        Check.same("level", x.way(0, 0, 1, 0), 5);
    }

    private static void toItself() {
        Doc.says(TERMS, "A WAY from a CELL to another one is a row of MOVES (none to itself).");
        MapRun x = Make.land(2, 2);
        Check.same("to itself", x.way(1, 1, 1, 1), 0);
        Check.same("no moves", x.move(-1), 0);
        Check.same("one way", x.many(1, 1, 1, 1), 1);
        x.takes(0, 0);
        Check.same("where no move leads to", x.way(1, 1, 1, 1), 0);
        Check.same("one way still", x.many(1, 1, 1, 1), 1);
        MapRun y = Make.land(2, 1);
        y.way(0, 0, 1, 0);
        Check.same("a row of one", y.move(-1), 1);
    }

    private static void longestWay() {
        Doc.says(TERMS, "is a row of MOVES");
        MapRun x = Make.land(20, 20);
        for (int row = 0; row < 19; row++) {
            for (int at = 0; at < 19; at++) {
                x.wall(row % 2 == 0 ? at : at + 1, row, 2, true);
            }
        }
        x.takes(0, 99);
        Check.same("through all 400 cells", x.way(0, 0, 0, 19), 399 * 99);
        Check.same("by 399 moves", x.move(-1), 399);
        int[] turns = {1, 18, 19, 20, 38, 39, 380, 398};
        int[] due = {1, 1, 2, 3, 3, 2, 3, 3};
        for (int i = 0; i < turns.length; i++) {
            Check.same("move " + turns[i], x.move(turns[i]), due[i]);
        }
        Check.noSuch("no more", () -> x.move(399));
        Check.same("one such way", x.many(0, 0, 0, 19), 1);
        Check.same("and back", x.way(0, 19, 0, 0), 399 * 99);
        Check.same("first to the right", x.move(0), 1);
        x.gates(0, 0, 0, 19);
        x.course(true);
        for (int i = 0; i < 12; i++) {
            int p = x.post(0, i % 2 == 0 ? 19 : 0, 1);
            x.add(0, p, p, p);
        }
        Check.same("all posts on one way", x.best(0, 399 * 99), 12);
        x.runner(0, 0, 0);
        Check.same("thirteen times the whole way", x.row(0, 100), 13 * 399 * 99);
    }

    /** Three cells by two; over the slow cell (1, 1) it is two moves, over the upper ones four. */
    private static MapRun slowAndStraight(int slow) {
        MapRun x = Make.land(3, 2);
        x.takes(1, slow);
        x.cell(1, 1, 1, 0);
        return x;
    }

    private static void fewestSeconds() {
        Doc.says(TERMS, "LEAST: of fewest SECONDS");
        MapRun x = slowAndStraight(16);
        Check.same("one second less by four moves", x.way(0, 1, 2, 1), 20);
        Check.same("these four", x.move(-1), 4);
        MapRun y = slowAndStraight(14);
        Check.same("one less straight on", y.way(0, 1, 2, 1), 19);
        Check.same("two", y.move(-1), 2);
    }

    private static void fewestMoves() {
        Doc.says(TERMS, "of like ones of fewest MOVES");
        MapRun x = slowAndStraight(15);
        Check.same("both take 20", x.way(0, 1, 2, 1), 20);
        Check.same("the one of two moves", x.move(-1), 2);
        Check.same("though the other is ahead as a row", x.move(0), 1);
        Check.same("and on", x.move(1), 1);
    }

    private static void firstAsARow() {
        Doc.says(TERMS, "of like ones the first as a row.");
        MapRun x = Make.land(3, 3);
        int[][] ends = {{0, 0, 2, 2}, {2, 2, 0, 0}, {0, 2, 2, 0}, {2, 0, 0, 2}};
        int[][] rows = {{1, 1, 2, 2}, {0, 0, 3, 3}, {0, 0, 1, 1}, {2, 2, 3, 3}};
        for (int i = 0; i < 4; i++) {
            x.way(ends[i][0], ends[i][1], ends[i][2], ends[i][3]);
            for (int at = 0; at < 4; at++) {
                Check.same("way " + i + ", move " + at, x.move(at), rows[i][at]);
            }
        }
    }

    private static void manyOfFewestSeconds() {
        Doc.says(TERMS, "MANY: how many WAYS there are of fewest SECONDS");
        Check.same("like seconds, whatever moves", slowAndStraight(15).many(0, 1, 2, 1), 2);
        Check.same("the longer one alone", slowAndStraight(16).many(0, 1, 2, 1), 1);
        Check.same("the shorter one alone", slowAndStraight(14).many(0, 1, 2, 1), 1);
        Check.same("three by two", Make.land(3, 2).many(0, 0, 2, 1), 3);
    }

    private static void manyAtMost() {
        Doc.says(TERMS, "(at most 1,000,000,000,000, more are told so).");
        Check.same("three quarters of it", snake(3).many(0, 0, 0, 19), 750000000000L);
        Check.same("just so many", snake(4).many(0, 0, 0, 19), 1000000000000L);
        Check.same("a quarter more", snake(5).many(0, 0, 0, 19), 1000000000000L);
        Check.same("five times as many", snake(20).many(0, 0, 0, 19), 1000000000000L);
    }

    /**
     * Ten strips of two rows, gone through there and back. In a field of two by n the row can be changed at n places:
     * four strips have three fields of five (5 to the 12th in all), five have one of four, the last one of a width.
     */
    private static MapRun snake(int width) {
        MapRun x = Make.land(20, 20);
        for (int strip = 0; strip < 10; strip++) {
            boolean goesRight = strip % 2 == 0;
            if (strip < 9) {
                for (int at = goesRight ? 0 : 1; at < (goesRight ? 19 : 20); at++) {
                    x.wall(at, 2 * strip + 1, 2, true);
                }
            }
            if (strip < 4) {
                shut(x, strip, 5, 0);
                shut(x, strip, 10, 1);
                shut(x, strip, 15, 0);
            } else {
                shut(x, strip, strip < 9 ? 4 : width, 0);
            }
        }
        return x;
    }

    /** A wall in one row of a strip behind its first cells, as they are gone through. */
    private static void shut(MapRun x, int strip, int behind, int row) {
        if (behind < 20) {
            x.wall(strip % 2 == 0 ? behind - 1 : 19 - behind, 2 * strip + row, 1, true);
        }
    }

    private static void fixedByARunner() {
        Doc.says(TERMS, "THE LAND changes as long as there is no RUNNER.");
        MapRun x = Make.land(2, 1);
        x.course(false);
        Check.yes("cell", x.cell(1, 0, 1, 4));
        Check.yes("takes", x.takes(1, 6));
        Check.yes("wall", x.wall(0, 0, 1, false));
        Check.yes("gates", x.gates(0, 0, 1, 0));
        x.runner(0, 0, 0);
        Check.no("cell now", x.cell(1, 0, 0, 0));
        Check.no("takes now", x.takes(1, 9));
        Check.no("climb now", x.takes(8, 0));
        Check.no("wall now", x.wall(0, 0, 1, true));
        Check.no("gates now", x.gates(1, 0, 1, 0));
        Check.same("all is as it was", x.way(0, 0, 1, 0), 6 + 4 * 2);
        Check.same("the gates too", x.row(0, 100), 6 + 4 * 2);
    }

    private static void newObject() {
        Doc.says("Promise 1", "A LAND of one CELL.");
        MapRun x = new MapRun();
        Check.same("there is one", x.way(0, 0, 0, 0), 0);
        Check.noSuch("no second to the right", () -> x.way(0, 0, 1, 0));
        Check.noSuch("no second below", () -> x.way(0, 0, 0, 1));
        Check.yes("it can be changed", x.cell(0, 0, 7, 99));
        Check.no("no wall beside it", x.wall(0, 0, 1, true));
        Check.no("nor below", x.wall(0, 0, 2, true));
        Doc.says("Constants", "`NONE = -1`: There is none.");
        Check.same("NONE", MapRun.NONE, -1);
        Check.same("no fault in a new object", x.fault(), MapRun.NONE);
        for (int what = 0; what < 8; what++) {
            Check.same("nothing yet, count " + what, x.count(what), 0);
        }
    }

    /** Two cells, all that can be on them, and all of it told at second 0. */
    private static MapRun fullOfEverything() {
        MapRun x = Make.land(2, 1);
        for (int i = 0; i < 3; i++) {
            x.post(1, 0, i);
        }
        x.course(false);
        for (int i = 0; i < 4; i++) {
            x.add(0, 0, 1, 2);
        }
        x.course(true);
        x.add(1, 2, 2, 2);
        x.way(0, 0, 1, 0);
        x.best(1, 10);
        for (int i = 0; i < 3; i++) {
            x.runner(0, i, 40 * i);
        }
        x.team(0, 1, 2);
        x.event(1, 0, 0, 0);
        x.event(0, 0, 0, 0);
        x.event(2, 0, 0, 0);
        x.protest(0);
        x.decide(0, 2, 5);
        Check.track(x, 0, "rl");
        Check.rules(x, "penalty 7; out 1; set limit 1; set gap 2; set window 3;");
        return x;
    }

    private static void landTakesTheRace() {
        Doc.says("Promise 2", "A LAND anew: all else goes, too");
        MapRun x = fullOfEverything();
        Check.same("there is a team", x.count(4), 1);
        Check.same("there is a protest", x.count(6), 1);
        Check.same("there is a way", x.move(-1), 1);
        Check.same("there is a best", x.bestOf(0), 1);
        Check.yes("anew", x.land(2, 1));
        int[] due = {0, 0, 0, 0, 0, 0, 0, 0, 3600, 60, 900};
        for (int what = 0; what < due.length; what++) {
            Check.same("count " + what, x.count(what), due[what]);
        }
        Check.noSuch("no way is kept", () -> x.move(-1));
        Check.noSuch("nor a move of it", () -> x.move(0));
        Check.noSuch("no best is kept", () -> x.bestOf(0));
        Check.noSuch("no runner", () -> x.lost(0));
        Check.noSuch("no team", () -> x.ofTeam(0, 0, 0));
        Check.noSuch("no event", () -> Check.of(x.back(0)));
        Check.noSuch("no protest", () -> Check.of(x.decide(0, 0, 0)));
    }

    private static void landStartsTheRaceAnew() {
        Doc.says("Promise 2", "all else goes, too");
        MapRun x = fullOfEverything();
        x.land(2, 1);
        for (int i = 0; i < 3; i++) {
            Check.same("posts from 0 on", x.post(0, 0, 0), i);
        }
        Check.same("courses from 0 on", x.course(false), 0);
        for (int i = 1; i <= 4; i++) {
            Check.same("without an element, a fork or a runner", x.add(0, 2, 1, 0), i);
        }
        Check.same("another course", x.course(false), 1);
        Check.same("in order", x.best(1, 10), -1);
        Check.same("runners from 0 on", x.runner(1, 0, 0), 0);
        Check.same("of an empty row", x.row(0, -1), 0);
        Check.same("no start is left", x.judged(0, 1, 0), -1);
        Check.same("no finish", x.judged(0, 2, 0), -1);
        Check.same("no punch", x.judged(0, 4, 0), 0);
        Check.same("no rules", x.judged(0, 6, 0), 0);
        Check.same("no track", x.lost(0), -100000);
        Check.same("events from 0 on", x.event(0, 0, 0, 0), 0);
        x.event(2, 0, 0, 0);
        Check.same("no protest puts it out", x.judged(0, 0, 0), 4);
        Check.same("nor adds to it", x.judged(0, 7, 0), 0);
        Check.same("protests from 0 on", x.protest(0), 0);
        Check.same("none is decided yet", x.judged(0, 0, 0), 4);
        Check.same("nor adds", x.judged(0, 7, 0), 0);
        Check.yes("the first", x.decide(0, 2, 0));
        Check.same("it puts out", x.judged(0, 0, 0), 2);
        x.runner(1, 0, 0);
        x.runner(1, 0, 0);
        Check.same("teams from 0 on, none is in one", x.team(2, 0, 1), 0);
    }

    private static void landTakesTheGround() {
        Doc.says("Promise 2", "all else goes, too");
        MapRun x = Make.land(3, 2);
        x.takes(0, 50);
        x.takes(1, 60);
        x.takes(8, 7);
        x.cell(1, 0, 1, 9);
        x.wall(0, 0, 1, true);
        x.wall(0, 0, 2, true);
        x.gates(2, 0, 2, 1);
        Check.yes("anew", x.land(3, 2));
        Check.same("seconds, heights and walls", x.way(0, 0, 1, 0), 5);
        Check.same("walls below", x.way(0, 0, 0, 1), 5);
        x.post(0, 1, 0);
        x.course(false);
        x.add(0, 0, 0, 0);
        x.takes(0, 8);
        Check.same("grounds", x.way(0, 0, 1, 0), 8);
        x.cell(1, 0, 1, 1);
        Check.same("seconds of ground 1, and climb", x.way(0, 0, 1, 0), 5 + 2);
        x.runner(0, 0, 0);
        Check.same("the gates", x.row(0, 100), 16);
        for (int what = 0; what < 3; what++) {
            allOfTheLandGoes(what);
        }
    }

    /** Every second cell is barred, or high, or walled in; gone through row by row, nothing of it is left. */
    private static void allOfTheLandGoes(int what) {
        MapRun x = Make.land(20, 20);
        x.takes(1, 0);
        for (int at = 0; at < 400; at += 2) {
            int atX = at % 20;
            int atY = at / 20;
            if (what < 2) {
                x.cell(atX, atY, what, 99 * (1 - what));
            } else {
                x.wall(atX, atY, 1, true);
                x.wall(atX, atY, 2, true);
            }
        }
        x.land(20, 20);
        for (int row = 0; row < 20; row++) {
            Check.same("row " + row, x.way(0, row, 19, row), 95);
            Check.same("column " + row, x.way(row, 19, row, 0), 95);
        }
    }

    private static void landTakesTimeAndFault() {
        Doc.says("Promise 2", "NOW is 0");
        MapRun x = new MapRun();
        x.go(99999);
        x.land(1, 1);
        Check.same("NOW", x.count(0), 0);
        Check.same("it can go on", x.go(99999), 99999);
        Doc.says("Promise 2", "fault() NONE");
        Check.rules(x, "?");
        Check.same("a fault at 0", x.fault(), 0);
        x.land(1, 1);
        Check.same("none", x.fault(), -1);
    }

    private static void landLeavesTheTape() {
        Doc.says("Promise 2", "(the tape stays): true.");
        MapRun x = new MapRun();
        int n = Check.feed(x, "set gap 7;");
        Check.yes("anew", x.land(2, 2));
        Check.same("its bytes", x.count(7), 20);
        Check.same("can be read", x.rules(n), 0);
        Check.same("as they were", x.count(9), 7);
    }

    private static void landRefused() {
        Doc.says("Promise 2", "False: w, h are not as told.");
        MapRun x = Make.land(3, 2);
        x.post(2, 1, 5);
        x.go(8);
        Check.rules(x, " ?");
        int[] wrong = {0, 21, -1, Integer.MIN_VALUE, Integer.MAX_VALUE};
        for (int side : wrong) {
            Check.no("w " + side, x.land(side, 2));
            Check.no("h " + side, x.land(2, side));
        }
        Check.same("the land stays", x.way(0, 0, 2, 1), 15);
        Check.same("its post", x.count(1), 1);
        Check.same("NOW", x.count(0), 8);
        Check.same("fault()", x.fault(), 1);
    }

    private static void cell() {
        Doc.says("Promise 3", "GROUND and HEIGHT of a CELL: true.");
        MapRun x = Make.land(3, 2);
        x.takes(3, 11);
        Check.yes("cell", x.cell(2, 1, 3, 4));
        Check.same("to it", x.way(1, 1, 2, 1), 11 + 4 * 2);
        Check.same("to another", x.way(1, 1, 1, 0), 5);
        Check.yes("again", x.cell(2, 1, 0, 1));
        Check.same("both are new", x.way(1, 1, 2, 1), 5 + 2);
        Doc.says("Promise 3", "NoSuchElementException: no such CELL (as everywhere).");
        Check.noSuch("x 3", () -> Check.of(x.cell(3, 0, 0, 0)));
        Check.noSuch("y 2", () -> Check.of(x.cell(0, 2, 0, 0)));
        Check.noSuch("x -1", () -> Check.of(x.cell(-1, 0, 0, 0)));
        Check.noSuch("y -1", () -> Check.of(x.cell(0, -1, 0, 0)));
        Check.noSuch("x most", () -> Check.of(x.cell(Integer.MAX_VALUE, 0, 0, 0)));
        Check.noSuch("wall x 3", () -> Check.of(x.wall(3, 0, 2, true)));
        Check.noSuch("wall y 2", () -> Check.of(x.wall(0, 2, 1, true)));
        Check.noSuch("wall x -1, whose side x more is a cell", () -> Check.of(x.wall(-1, 0, 1, true)));
        Check.noSuch("wall y -1, whose side y more is a cell", () -> Check.of(x.wall(0, -1, 2, true)));
        Check.noSuch("start x 3", () -> Check.of(x.gates(3, 0, 0, 0)));
        Check.noSuch("start y 2", () -> Check.of(x.gates(0, 2, 0, 0)));
        Check.noSuch("finish x 3", () -> Check.of(x.gates(0, 0, 3, 0)));
        Check.noSuch("finish y -1", () -> Check.of(x.gates(0, 0, 0, -1)));
        Check.noSuch("many from x 3", () -> x.many(3, 0, 0, 0));
        Check.noSuch("many to y 2", () -> x.many(0, 0, 0, 2));
        Check.noSuch("post x 3", () -> x.post(3, 0, 0));
        Check.noSuch("post y -1", () -> x.post(0, -1, 0));
    }

    private static void cellRefused() {
        Doc.says("Promise 3", "False: there is a RUNNER");
        MapRun x = Make.land(2, 1);
        x.course(true);
        Check.yes("a course alone does not fix it", x.cell(1, 0, 0, 3));
        x.runner(0, 0, 0);
        Check.no("even as it is", x.cell(1, 0, 0, 3));
        Check.no("anew", x.cell(1, 0, 0, 0));
        Check.same("it stays", x.way(0, 0, 1, 0), 5 + 3 * 2);
        Doc.says("Promise 3", "a number is not as told");
        MapRun y = Make.land(2, 1);
        y.takes(2, 9);
        int[] wrong = {-1, Integer.MIN_VALUE, Integer.MAX_VALUE};
        for (int number : wrong) {
            Check.no("ground " + number, y.cell(1, 0, number, 1));
            Check.no("height " + number, y.cell(1, 0, 2, number));
        }
        Check.no("ground 8", y.cell(1, 0, 8, 1));
        Check.no("height 100", y.cell(1, 0, 2, 100));
        Check.same("nothing of it is taken", y.way(0, 0, 1, 0), 5);
    }

    private static void cellUnderAPost() {
        Doc.says("Promise 3", "or a POST stands there and it couldn't be entered.");
        MapRun x = Make.land(3, 1);
        x.takes(1, 0);
        x.post(1, 0, 0);
        x.post(2, 0, 0);
        Check.no("under the first post", x.cell(1, 0, 1, 0));
        Check.no("under the last post", x.cell(2, 0, 1, 0));
        Check.same("it can be entered", x.way(0, 0, 1, 0), 5);
        Check.yes("another ground, another height", x.cell(1, 0, 2, 5));
        Check.yes("where none stands", x.cell(0, 0, 1, 0));
    }

    private static void takes() {
        Doc.says("Promise 4", "SECONDS of a GROUND (8: CLIMB): true.");
        MapRun x = Make.land(3, 1);
        x.cell(1, 0, 7, 0);
        Check.yes("ground 7", x.takes(7, 20));
        Check.same("over it", x.way(0, 0, 2, 0), 25);
        x.cell(2, 0, 0, 3);
        Check.yes("climb", x.takes(8, 5));
        Check.same("up from it", x.way(0, 0, 2, 0), 25 + 15);
        Check.yes("ground 0", x.takes(0, 1));
        Check.same("of 0", x.way(0, 0, 2, 0), 21 + 15);
        Doc.says("Promise 4", "NoSuchElementException: no such GROUND.");
        Check.noSuch("9", () -> Check.of(x.takes(9, 1)));
        Check.noSuch("-1", () -> Check.of(x.takes(-1, 1)));
        Check.noSuch("least", () -> Check.of(x.takes(Integer.MIN_VALUE, 1)));
        Check.noSuch("most, nor seconds", () -> Check.of(x.takes(Integer.MAX_VALUE, 100)));
    }

    private static void takesRefused() {
        Doc.says("Promise 4", "False: there is a RUNNER");
        MapRun x = Make.land(2, 1);
        x.course(false);
        x.runner(0, 0, 0);
        Check.no("ground 0", x.takes(0, 6));
        Check.no("climb", x.takes(8, 6));
        Check.same("it stays", x.way(0, 0, 1, 0), 5);
        Doc.says("Promise 4", "not as told");
        MapRun y = Make.land(2, 1);
        y.cell(1, 0, 0, 1);
        Check.no("100", y.takes(0, 100));
        Check.no("-1", y.takes(0, -1));
        Check.no("most", y.takes(0, Integer.MAX_VALUE));
        Check.no("climb 10", y.takes(8, 10));
        Check.no("climb 99", y.takes(8, 99));
        Check.no("climb -1", y.takes(8, -1));
        Check.same("nothing changed", y.way(0, 0, 1, 0), 7);
    }

    private static void takesUnderAPost() {
        Doc.says("Promise 4", "or a POST stands on it and it couldn't be entered.");
        MapRun x = Make.land(3, 1);
        x.cell(1, 0, 1, 0);
        x.cell(2, 0, 2, 0);
        x.post(1, 0, 0);
        x.post(2, 0, 0);
        Check.no("the first post's", x.takes(1, 0));
        Check.no("the last post's", x.takes(2, 0));
        Check.same("both can be entered", x.way(0, 0, 2, 0), 10);
        Check.yes("one second is enough", x.takes(1, 1));
        Check.yes("none stands on 0", x.takes(0, 0));
        Check.yes("nor on 3", x.takes(3, 0));
        Check.yes("climb 0 bars nothing", x.takes(8, 0));
    }

    private static void wall() {
        Doc.says("Promise 5", "A WALL on a CELL's side (1 x more, 2 y more), or none: true.");
        MapRun x = Make.land(2, 2);
        Check.yes("x more", x.wall(0, 1, 1, true));
        Check.same("there is one", x.way(0, 1, 1, 1), 15);
        Check.yes("y more", x.wall(1, 0, 2, true));
        Check.same("the lower right is shut in", x.way(0, 1, 1, 1), -1);
        Check.yes("twice is once", x.wall(1, 0, 2, true));
        Check.yes("none", x.wall(1, 0, 2, false));
        Check.same("open", x.way(1, 0, 1, 1), 5);
        Check.yes("none, where there was none", x.wall(0, 0, 2, false));
        Check.same("open still", x.way(0, 0, 0, 1), 5);
    }

    private static void wallRefused() {
        Doc.says("Promise 5", "False: there is a RUNNER");
        MapRun x = Make.land(2, 1);
        x.course(false);
        x.runner(0, 0, 0);
        Check.no("a wall", x.wall(0, 0, 1, true));
        Check.no("none", x.wall(0, 0, 1, false));
        Check.same("none came", x.way(0, 0, 1, 0), 5);
        Doc.says("Promise 5", "or no such side");
        MapRun y = Make.land(3, 3);
        int[] sides = {0, 3, 4, -1, Integer.MAX_VALUE};
        for (int side : sides) {
            Check.no("side " + side, y.wall(1, 1, side, true));
        }
        Check.same("none came", y.many(0, 0, 2, 2), 6);
        Doc.says("Promise 5", "or no CELL there.");
        MapRun z = Make.land(3, 2);
        Check.no("right of the last", z.wall(2, 0, 1, true));
        Check.no("below the last", z.wall(0, 1, 2, true));
        Check.yes("right of the one ahead", z.wall(1, 0, 1, false));
        Check.yes("below the one ahead", z.wall(0, 0, 2, false));
    }

    private static void gates() {
        Doc.says("Promise 6", "THE START and THE FINISH: true.");
        MapRun x = Make.land(4, 3);
        Check.yes("gates", x.gates(3, 0, 1, 2));
        x.course(false);
        x.runner(0, 0, 0);
        Check.same("from one to the other", x.row(0, 100), 20);
        Check.same("a step beside the start, three more to the finish", Check.track(x, 0, "llddru"), 30);
        Check.same("it does not end there", x.lost(0), -100000);
        Check.same("to the finish", Check.track(x, 0, "lldd"), 20);
        Check.same("it does", x.lost(0), 0);
        Doc.says("Promise 6", "False: there is a RUNNER.");
        Check.no("others", x.gates(0, 0, 0, 0));
        Check.no("the same", x.gates(3, 0, 1, 2));
        Check.same("they stay", x.row(0, 100), 20);
    }

    private static void way() {
        Doc.says("Promise 7", "LEAST WAY from a CELL to another one: its SECONDS; it is kept.");
        MapRun x = Make.land(3, 1);
        Check.same("two cells on", x.way(0, 0, 2, 0), 10);
        Check.same("kept", x.move(-1), 2);
        Check.same("its first move", x.move(0), 1);
        Check.same("back by one", x.way(2, 0, 1, 0), 5);
        Check.same("the latest is kept", x.move(-1), 1);
        Check.same("its move", x.move(0), 3);
        Doc.says("Promise 7", "NONE (what was kept stays): there is none.");
        x.wall(0, 0, 1, true);
        Check.same("none", x.way(0, 0, 2, 0), -1);
        Check.same("what was kept", x.move(-1), 1);
        Check.same("stays", x.move(0), 3);
        MapRun y = Make.land(2, 1);
        y.wall(0, 0, 1, true);
        Check.same("none ever", y.way(0, 0, 1, 0), -1);
        Check.noSuch("nothing is kept by that", () -> y.move(-1));
    }

    private static void move() {
        Doc.says("Promise 8", "The i-th MOVE of the way that is kept");
        MapRun x = Make.land(3, 2);
        x.wall(1, 0, 1, true);
        x.way(0, 0, 2, 0);
        int[] due = {1, 2, 1, 0};
        for (int i = 0; i < due.length; i++) {
            Check.same("move " + i, x.move(i), due[i]);
        }
        x.wall(1, 0, 1, false);
        Check.same("kept, though the land has changed", x.move(3), 0);
        Doc.says("Promise 8", "i NONE: how many.");
        Check.same("four", x.move(MapRun.NONE), 4);
        x.way(1, 1, 1, 1);
        Check.same("none", x.move(MapRun.NONE), 0);
        Doc.says("Promise 8", "NoSuchElementException: there is none.");
        Check.noSuch("the first of none", () -> x.move(0));
        MapRun y = Make.land(20, 20);
        y.way(0, 0, 19, 19);
        Check.same("the last of 38", y.move(37), 2);
        Check.noSuch("one more", () -> y.move(38));
        Check.noSuch("-2", () -> y.move(-2));
        Check.noSuch("least", () -> y.move(Integer.MIN_VALUE));
        Check.noSuch("most", () -> y.move(Integer.MAX_VALUE));
        Check.noSuch("no way at all", () -> new MapRun().move(0));
        Check.noSuch("how many of no way", () -> new MapRun().move(-1));
    }

    private static void many() {
        Doc.says("Promise 9", "MANY");
        MapRun x = Make.land(4, 3);
        Check.same("four by three", x.many(0, 0, 3, 2), 10);
        Check.same("back", x.many(3, 2, 0, 0), 10);
        x.way(0, 0, 1, 0);
        x.many(0, 0, 3, 2);
        Check.same("none of them is kept", x.move(-1), 1);
        Doc.says("Promise 9", "0: there is none.");
        x.wall(2, 2, 1, true);
        x.wall(3, 1, 2, true);
        Check.same("to a corner shut in", x.many(0, 0, 3, 2), 0);
        Check.same("from it", x.many(3, 2, 0, 0), 0);
        Check.same("within it", x.many(3, 2, 3, 2), 1);
    }
}
