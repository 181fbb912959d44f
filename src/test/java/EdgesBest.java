import java.util.Random;

/** Terms 7 and promises 28 to 32, sentence by sentence. */
final class EdgesBest {
    private static final String TERMS = "Terms 7";

    private EdgesBest() { }

    static void all() {
        within();
        sets();
        goneThrough();
        inSomeOrder();
        inEveryOrder();
        mostPoints();
        fewestSeconds();
        lesserNumber();
        trackText();
        trackFaults();
        trackSeconds();
        lostSeconds();
        lostAtTheFinish();
        lostInOrder();
        startComeBy();
        oneCellForSeveral();
        best();
        bestRefused();
        bestOf();
        track();
        trackOfBytes();
        lost();
        lostNone();
        counts();
        countOfNothing();
    }

    private static void isBest(MapRun x, int seconds, int points, int set, int took) {
        Check.same("points within " + seconds, x.best(0, seconds), points);
        Check.same("set within " + seconds, x.bestOf(0), set);
        Check.same("seconds within " + seconds, x.bestOf(1), took);
    }

    private static void within() {
        Doc.says(TERMS, "THE BEST of a FREE COURSE within so many SECONDS");
        MapRun x = Make.freeLine(5, 0, 1, 10, 4, 50);
        isBest(x, 0, 0, 0, 0);
        isBest(x, 9, 0, 0, 0);
        isBest(x, 10, 10, 1, 10);
        isBest(x, 39, 10, 1, 10);
        isBest(x, 40, 60, 3, 40);
        isBest(x, Integer.MAX_VALUE, 60, 3, 40);
        MapRun through = Make.freeLine(5, 0, 1, 10);
        through.gates(0, 0, 4, 0);
        Check.same("less than the straight way", through.best(0, 19), -1);
        isBest(through, 20, 10, 1, 20);
    }

    private static void sets() {
        Doc.says(TERMS, "of all sets of its POSTS (its places)");
        MapRun x = Make.freeLine(5, 0, 1, 10, 3, 20);
        x.add(0, 0, 0, 0);
        isBest(x, 10, 20, 5, 10);
        isBest(x, 30, 40, 7, 30);
        x.post(0, 0, 99);
        isBest(x, 30, 40, 7, 30);
        isBest(Make.freeLine(3, 0), 7, 0, 0, 0);
        int[] twelve = new int[24];
        for (int i = 0; i < 12; i++) {
            twelve[2 * i] = i + 1;
            twelve[2 * i + 1] = 99;
        }
        MapRun all = Make.freeLine(13, 0, twelve);
        isBest(all, 120, 12 * 99, 4095, 120);
        isBest(all, 119, 11 * 99, 2047, 110);
    }

    private static void goneThrough() {
        Doc.says(TERMS, "that can be gone through from THE START to THE FINISH by LEAST WAYS");
        MapRun x = Make.freeLine(6, 0, 1, 10, 3, 20, 5, 30);
        x.gates(2, 0, 4, 0);
        isBest(x, 10, 20, 2, 10);
        isBest(x, 20, 50, 6, 20);
        isBest(x, 30, 60, 7, 30);
        x.wall(0, 0, 1, true);
        x.cell(3, 0, 0, 4);
        isBest(x, 26, 20, 2, 18);
        isBest(x, 28, 50, 6, 28);
        x.takes(1, 0);
        x.gates(0, 0, 0, 0);
        isBest(x, 1000, 0, 0, 0);
        x.gates(5, 0, 2, 0);
        x.cell(4, 0, 1, 0);
        Check.same("no way at all", x.best(0, 1000), -1);
        x.gates(4, 0, 2, 0);
        isBest(x, 1000, 30, 3, 13 + 5 + 5 + 5);
        MapRun apart = Make.freeLine(6, 0, 1, 10, 4, 20, 2, 30, 5, 40);
        apart.wall(2, 0, 1, true);
        int[] seconds = {20, 1000, 2000000000, 2000000020, Integer.MAX_VALUE};
        for (int most : seconds) {
            isBest(apart, most, 40, 5, 20);
        }
        MapRun back = Make.freeLine(9, 8, 1, 10, 5, 20);
        back.gates(8, 0, 2, 0);
        isBest(back, 40, 30, 3, 40);
        isBest(back, 39, 20, 2, 30);
    }

    private static void inSomeOrder() {
        Doc.says(TERMS, "in some order, within them");
        MapRun x = Make.freeLine(9, 4, 7, 1, 2, 1, 6, 1, 3, 1);
        isBest(x, 50, 4, 15, 50);
        isBest(x, 49, 3, 13, 40);
        MapRun up = Make.freeLine(4, 0, 3, 5, 1, 5, 2, 5);
        up.cell(2, 0, 0, 3);
        isBest(up, 30 + 6 + 6, 15, 7, 42);
        isBest(up, 41, 10, 6, 26);
        MapRun near = Make.freeLine(7, 0, 5, 1, 1, 1, 6, 1);
        near.gates(0, 0, 6, 0);
        isBest(near, 30, 3, 7, 30);
        isBest(near, 1000, 3, 7, 30);
        MapRun last = Make.freeLine(7, 0, 6, 1, 5, 1, 1, 1);
        last.gates(0, 0, 6, 0);
        isBest(last, 30, 3, 7, 30);
        isBest(last, 1000, 3, 7, 30);
    }

    /** Courses of seven posts through rough lands, held against every set in every order. */
    private static void inEveryOrder() {
        Doc.says(TERMS, "in some order");
        for (int seed = 0; seed < 12; seed++) {
            Random random = new Random(seed);
            MapRun x = Make.land(6, 6);
            x.takes(0, 1 + seed % 5);
            for (int i = 0; i < 36; i++) {
                x.cell(i % 6, i / 6, 0, random.nextInt(seed % 3 == 0 ? 2 : 9));
            }
            int[] cells = new int[9];
            for (int i = 0; i < 9; i++) {
                cells[i] = random.nextInt(36);
            }
            x.gates(cells[7] % 6, cells[7] / 6, cells[8] % 6, cells[8] / 6);
            x.course(true);
            int[] points = new int[7];
            for (int i = 0; i < 7; i++) {
                points[i] = random.nextInt(seed % 2 == 0 ? 3 : 100);
                int p = x.post(cells[i] % 6, cells[i] / 6, points[i]);
                x.add(0, p, p, p);
            }
            int[][] legs = legs(x, cells);
            for (int i = 0; i < 70; i++) {
                int seconds = legs[7][8] + i * (1 + seed % 5);
                int[] due = {-1, 0, 0};
                tryOn(legs, points, seconds, new int[] {0, 0, 0}, 7, due);
                isBest(x, seconds, due[0], due[2], due[1]);
            }
        }
    }

    /** Between seven posts, from the start (7) and to the finish (8). */
    private static int[][] legs(MapRun x, int[] cells) {
        int[][] legs = new int[9][9];
        for (int from = 0; from < 8; from++) {
            for (int to = 0; to < 9; to++) {
                legs[from][to] = x.way(cells[from] % 6, cells[from] / 6, cells[to] % 6, cells[to] / 6);
            }
        }
        return legs;
    }

    /** From the last place of a row (its points, seconds and set) to the finish, and to each place that is left. */
    private static void tryOn(int[][] legs, int[] points, int seconds, int[] row, int last, int[] due) {
        int home = row[1] + legs[last][8];
        if (home <= seconds && (row[0] > due[0]
                || row[0] == due[0] && (home < due[1] || home == due[1] && row[2] < due[2]))) {
            due[0] = row[0];
            due[1] = home;
            due[2] = row[2];
        }
        for (int next = 0; next < 7; next++) {
            if ((row[2] >> next & 1) == 0) {
                int[] on = {row[0] + points[next], row[1] + legs[last][next], row[2] | 1 << next};
                tryOn(legs, points, seconds, on, next, due);
            }
        }
    }

    private static void mostPoints() {
        Doc.says(TERMS, "greatest sum of POINTS");
        MapRun x = Make.freeLine(9, 4, 3, 10, 2, 1, 5, 6, 6, 6);
        isBest(x, 20, 16, 5, 20);
        isBest(x, 29, 16, 5, 20);
        isBest(x, 30, 22, 13, 30);
        MapRun near = Make.freeLine(9, 4, 3, 98, 5, 99);
        isBest(near, 10, 99, 2, 10);
    }

    private static void fewestSeconds() {
        Doc.says(TERMS, "of like ones fewest SECONDS");
        isBest(Make.freeLine(9, 4, 7, 10, 3, 10), 30, 10, 2, 10);
        isBest(Make.freeLine(9, 4, 5, 10, 1, 10), 30, 10, 1, 10);
        isBest(Make.freeLine(9, 4, 6, 5, 7, 5, 2, 10), 30, 10, 4, 20);
        isBest(Make.freeLine(9, 4, 5, 0, 6, 7), 5, 0, 0, 0);
        isBest(Make.freeLine(9, 4, 5, 0), 99, 0, 0, 0);
        isBest(Make.freeLine(9, 4, 5, 0, 3, 7), 99, 7, 2, 10);
    }

    private static void lesserNumber() {
        Doc.says(TERMS, "of like ones the lesser number of bits.");
        isBest(Make.freeLine(9, 4, 3, 10, 5, 10), 10, 10, 1, 10);
        isBest(Make.freeLine(9, 4, 5, 10, 3, 10, 5, 10), 10, 20, 5, 10);
        isBest(Make.freeLine(9, 4, 4, 0, 5, 7, 4, 0), 99, 7, 2, 10);
        isBest(Make.freeLine(9, 4, 4, 0), 99, 0, 0, 0);
        isBest(Make.freeLine(9, 4, 5, 4, 5, 6, 3, 10), 10, 10, 3, 10);
    }

    private static void trackText() {
        Doc.says(TERMS, "TRACK of a RUNNER: a text of u r d l (MOVES 0 to 3; blanks, 32 and 10, count for nothing) from "
                + "THE START");
        MapRun x = Make.square();
        Check.same("down, right, up, left is a wall", Check.track(x, 0, "drul"), -3);
        Check.same("all four", Check.track(x, 0, "drurldlu"), 5 + 11 + 5 + 5 + 5 + 11 + 5 + 5);
        Check.same("blanks", Check.track(x, 0, "\n d \n\nr  u"), 5 + 11 + 5);
        Check.same("blanks alone", Check.track(x, 0, " \n "), 0);
        Check.same("nothing", Check.track(x, 0, ""), 0);
    }

    private static void trackFaults() {
        Doc.says(TERMS, "FAULT 1 a sign that is none");
        for (char sign = 0; sign < 256; sign++) {
            boolean isMove = sign == 'u' || sign == 'r' || sign == 'd' || sign == 'l';
            if (!isMove && sign != 32 && sign != 10) {
                MapRun x = Make.square();
                Check.same("sign " + (int) sign, Check.track(x, 0, "d" + sign), -2);
                Check.same("its byte", x.fault(), 1);
            }
        }
        Doc.says(TERMS, "2 a MOVE that can't be made, at its byte");
        MapRun x = Make.square();
        String[] texts = {"u", "l", "r", " d l", "dddd", "ddrr", "druru", "drrd", "drur d", "drurrx", "ddr?"};
        int[] due = {-3, -3, -3, -3, -3, -3, -3, -3, -3, -3, -2};
        int[] at = {0, 0, 0, 3, 2, 3, 4, 3, 5, 4, 3};
        for (int i = 0; i < texts.length; i++) {
            Check.same(texts[i], Check.track(x, 0, texts[i]), due[i]);
            Check.same(texts[i] + " at", x.fault(), at[i]);
        }
    }

    private static void trackSeconds() {
        Doc.says(TERMS, "else its SECONDS.");
        MapRun x = Make.square();
        Check.same("with climb", Check.track(x, 0, "dr"), 5 + 5 + 6);
        Check.same("none down", Check.track(x, 0, "drl"), 16 + 5);
        Check.same("there and back", Check.track(x, 0, "dudu"), 20);
        StringBuilder longest = new StringBuilder();
        for (int i = 0; i < 250; i++) {
            longest.append("du");
        }
        Check.same("500 moves", Check.track(x, 0, longest.toString()), 2500);
        MapRun hills = Make.land(3, 2);
        int[] heights = {5, 9, 2, 30, 7, 31};
        for (int i = 0; i < 6; i++) {
            hills.takes(i, i + 1);
            hills.cell(i % 3, i / 3, i, heights[i]);
        }
        hills.gates(1, 0, 2, 1);
        hills.course(false);
        hills.runner(0, 0, 0);
        Check.same("up and down", Check.track(hills, 0, "ldrrul"), 1 + (4 + 50) + 5 + (6 + 48) + 3 + (2 + 14));
        Check.same("and round the other way", Check.track(hills, 0, "rdllur"), 3 + (6 + 58) + 5 + (4 + 46) + 1 + (2 + 8));
    }

    private static void lostSeconds() {
        Doc.says(TERMS, "LOST: these less LENGTH of its ROW");
        MapRun x = Make.square(20);
        Check.same("length", x.row(0, 100), 10 + 5 + 11 + 5);
        Check.track(x, 0, "ddruu");
        Check.same("none lost", x.lost(0), 0);
        Check.track(x, 0, "dududdruu");
        Check.same("twenty", x.lost(0), 20);
        Check.track(x, 0, "ddururl");
        Check.same("ten, over the finish and back to it", x.lost(0), 10);
    }

    private static void lostAtTheFinish() {
        Doc.says(TERMS, "if it ends at THE FINISH");
        MapRun x = Make.square();
        Check.track(x, 0, "dru");
        Check.same("it does", x.lost(0), 0);
        Check.track(x, 0, "drur");
        Check.same("one too far", x.lost(0), -100000);
        Check.track(x, 0, "dr");
        Check.same("one too few", x.lost(0), -100000);
        Check.track(x, 0, "drurl");
        Check.same("over it and back", x.lost(0), 10);
        Check.track(x, 0, "");
        Check.same("not from where it starts", x.lost(0), -100000);
    }

    private static void lostInOrder() {
        Doc.says(TERMS, "and comes by the CELLS of its ROW in order");
        MapRun x = Make.square(20, 10);
        Check.track(x, 0, "ddudruu");
        Check.same("2 down, then 1", x.lost(0), 10);
        Check.track(x, 0, "dru");
        Check.same("by the second alone", x.lost(0), -100000);
        Check.track(x, 0, "ddruu");
        Check.same("the second only ahead of the first", x.lost(0), -100000);
        Check.track(x, 0, "dduru");
        Check.same("by both", x.lost(0), 0);
        Check.track(x, 1, "drudlduru");
        Check.same("the finish may be come by ahead", x.lost(1), 32);
    }

    private static void startComeBy() {
        Doc.says(TERMS, "(THE START, too, counts as come by");
        MapRun x = Make.line(3);
        x.course(false);
        x.add(0, 0, 0, 0);
        x.add(0, 2, 2, 2);
        x.runner(0, 0, 0);
        Check.track(x, 0, "rr");
        Check.same("a post at the start, one at the finish", x.lost(0), 0);
        MapRun y = new MapRun();
        y.post(0, 0, 0);
        y.course(false);
        y.add(0, 0, 0, 0);
        y.runner(0, 0, 0);
        Check.track(y, 0, "");
        Check.same("no move at all", y.lost(0), 0);
    }

    private static void oneCellForSeveral() {
        Doc.says(TERMS, "one CELL may serve several POSTS side by side in the ROW that stand there).");
        MapRun x = Make.line(3);
        int other = x.post(1, 0, 0);
        x.course(false);
        x.course(false);
        int[] sideBySide = {1, other, 1, 2, 2};
        for (int p : sideBySide) {
            x.add(0, p, p, p);
        }
        int[] apart = {1, 0, other};
        for (int p : apart) {
            x.add(1, p, p, p);
        }
        x.runner(0, 0, 0);
        x.runner(1, 0, 0);
        Check.track(x, 0, "rr");
        Check.same("side by side", x.lost(0), 0);
        Check.track(x, 1, "rr");
        Check.same("another between", x.lost(1), -100000);
        Check.track(x, 1, "rlrr");
        Check.same("come by again", x.lost(1), 0);
    }

    private static void best() {
        Doc.says("Promise 28", "THE BEST of a FREE COURSE: the sum of POINTS; its set is kept.");
        MapRun x = Make.freeLine(5, 0, 1, 10, 2, 30);
        Check.same("both", x.best(0, 20), 40);
        Check.same("kept", x.bestOf(0), 3);
        x.add(0, 1, 1, 1);
        Check.same("as it was found", x.bestOf(0), 3);
        Check.same("less", x.best(0, 10), 10);
        Check.same("the latest is kept", x.bestOf(0), 1);
        x.runner(0, 0, 0);
        Check.same("with a runner too", x.best(0, 20), 70);
        Check.same("all three places", x.bestOf(0), 7);
    }

    private static void bestRefused() {
        MapRun x = Make.freeLine(5, 0, 1, 10);
        x.course(false);
        x.best(0, 10);
        Doc.says("Promise 28", "NONE: it is IN ORDER");
        Check.same("in order", x.best(1, 1000), -1);
        Check.same("what was kept stays", x.bestOf(0), 1);
        Doc.says("Promise 28", "or not even none can be gone (what was kept stays).");
        x.gates(0, 0, 4, 0);
        Check.same("too far by a second", x.best(0, 19), -1);
        Check.same("what was kept stays", x.bestOf(0), 1);
        Check.same("its seconds", x.bestOf(1), 10);
        Check.same("just so far", x.best(0, 20), 10);
        x.wall(2, 0, 1, true);
        Check.same("no way", x.best(0, Integer.MAX_VALUE), -1);
        Check.same("what was kept stays", x.bestOf(1), 20);
        Doc.says("Promise 28", "IllegalArgumentException: seconds are below 0.");
        Check.badArgument("-1", () -> x.best(0, -1));
        Check.badArgument("least", () -> x.best(0, Integer.MIN_VALUE));
        Check.badArgument("in order", () -> x.best(1, -1));
        Check.same("what was kept stays", x.bestOf(1), 20);
        Check.same("0 is fine", Make.freeLine(2, 0).best(0, 0), 0);
    }

    private static void bestOf() {
        MapRun x = Make.freeLine(5, 0, 1, 10, 2, 30);
        x.best(0, 25);
        Doc.says("Promise 29", "Of THE BEST that is kept: 0 the set as bits");
        Check.same("places 0 and 1", x.bestOf(0), 3);
        Doc.says("Promise 29", "1 SECONDS.");
        Check.same("twenty", x.bestOf(1), 20);
        Doc.says("Promise 29", "NoSuchElementException: another what");
        int[] wrong = {2, -1, Integer.MAX_VALUE, Integer.MIN_VALUE};
        for (int what : wrong) {
            Check.noSuch("what " + what, () -> x.bestOf(what));
        }
        Doc.says("Promise 29", "or none is kept.");
        MapRun y = Make.freeLine(5, 0);
        Check.noSuch("no set", () -> y.bestOf(0));
        Check.noSuch("no seconds", () -> y.bestOf(1));
        Check.noSuch("nor in a new object", () -> new MapRun().bestOf(0));
        y.gates(0, 0, 4, 0);
        y.best(0, 1);
        Check.noSuch("one refused keeps none", () -> y.bestOf(0));
        y.best(0, 20);
        Check.same("an empty set is kept", y.bestOf(0), 0);
        Check.same("the straight way", y.bestOf(1), 20);
    }

    private static void track() {
        Doc.says("Promise 30", "A TRACK, the tape's first n bytes (it is empty then): its SECONDS");
        MapRun x = Make.square();
        Check.feed(x, "dru????");
        Check.same("the first three", x.track(0, 3), 21);
        Check.same("empty", x.count(7), 0);
        Check.feed(x, "???");
        Check.same("the first none", x.track(0, 0), 0);
        Check.same("empty", x.count(7), 0);
        Doc.says("Promise 30", "or - 1 - its FAULT.");
        Check.same("fault 1", Check.track(x, 0, "d?"), -2);
        Check.same("empty", x.count(7), 0);
        Check.same("fault 2", Check.track(x, 0, "dl"), -3);
        Check.same("empty", x.count(7), 0);
    }

    private static void trackOfBytes() {
        Doc.says("Promise 30", "IllegalArgumentException likewise.");
        MapRun x = Make.square();
        Check.track(x, 0, "dru");
        Check.track(x, 0, " x");
        Check.badArgument("1 of none", () -> x.track(0, 1));
        Check.feed(x, "drurl");
        int[] wrong = {21, 501, -1, Integer.MAX_VALUE, Integer.MIN_VALUE};
        for (int n : wrong) {
            Check.badArgument(n + " of 20", () -> x.track(0, n));
        }
        Check.same("the tape stays", x.count(7), 20);
        Check.same("the fault stays", x.fault(), 1);
        Check.same("the track ahead stays", x.lost(0), 0);
        Check.same("all of it", x.track(0, 20), 31);
        Check.same("lost", x.lost(0), 10);
    }

    private static void lost() {
        Doc.says("Promise 31", "LOST by the latest TRACK without a FAULT of a RUNNER");
        MapRun x = Make.square();
        Check.track(x, 0, "drurl");
        Check.track(x, 1, "dru");
        Check.same("its own", x.lost(0), 10);
        Check.same("the other's", x.lost(1), 0);
        Check.track(x, 0, "dudru");
        Check.same("the latest", x.lost(0), 10);
        Check.track(x, 0, "dududru");
        Check.same("the latest again", x.lost(0), 20);
        Check.track(x, 0, "drux");
        Check.same("one with fault 1 leaves it", x.lost(0), 20);
        Check.track(x, 0, "druu");
        Check.same("one with fault 2 leaves it", x.lost(0), 20);
        for (int club = 0; club < 3; club++) {
            Check.same("one more runner", x.runner(0, club, 0), 2 + club);
            Check.same("without a track", x.lost(2 + club), -100000);
            Check.same("the first one's stays", x.lost(0), 20);
            Check.same("the second one's too", x.lost(1), 0);
        }
        Check.track(x, 3, "drurl");
        int[] due = {20, 0, -100000, 10, -100000};
        for (int i = 0; i < 5; i++) {
            Check.same("of runner " + i, x.lost(i), due[i]);
        }
    }

    private static void lostNone() {
        Doc.says("Promise 31", "-100000: there is none");
        MapRun x = Make.square(20);
        Check.same("no track", x.lost(0), -100000);
        Check.track(x, 0, "x");
        Check.same("one with a fault alone", x.lost(0), -100000);
        Check.track(x, 1, "ddruu");
        Check.same("another's", x.lost(0), -100000);
        Doc.says("Promise 31", "or it doesn't come by its ROW");
        Check.track(x, 0, "ddruu");
        Check.same("it does", x.lost(0), 0);
        Check.track(x, 0, "dru");
        Check.same("not by its post", x.lost(0), -100000);
        Check.track(x, 0, "ddru");
        Check.same("not to the finish", x.lost(0), -100000);
        Doc.says("Promise 31", "or LENGTH is NONE.");
        MapRun y = Make.line(3);
        y.wall(1, 0, 1, true);
        y.course(false);
        y.add(0, 1, 1, 1);
        y.runner(0, 0, 0);
        Check.same("no length", y.row(0, 100), -1);
        Check.same("as far as it goes", Check.track(y, 0, "r"), 5);
        Check.same("nothing lost", y.lost(0), -100000);
    }

    private static void counts() {
        MapRun x = Make.land(2, 2);
        for (int i = 0; i < 7; i++) {
            x.post(0, 0, 0);
        }
        for (int i = 0; i < 5; i++) {
            x.course(false);
        }
        for (int i = 0; i < 9; i++) {
            x.runner(0, 0, 0);
        }
        x.team(0, 1, 2);
        x.team(3, 4, 5);
        x.go(41);
        for (int i = 0; i < 6; i++) {
            x.event(2, 0, 0, 0);
        }
        for (int i = 0; i < 3; i++) {
            x.protest(0);
        }
        Check.rules(x, "set limit 11; set gap 12; set window 13;");
        x.feed(0, 0, 0, 0, 0);
        String[] words = {"0 NOW", "1 POSTS", "2 COURSES", "3 RUNNERS", "4 TEAMS", "5 EVENTS", "6 PROTESTS",
            "7 bytes of the tape"};
        int[] due = {41, 7, 5, 9, 2, 6, 3, 20};
        for (int what = 0; what < 8; what++) {
            Doc.says("Promise 32", words[what]);
            Check.same("count " + what, x.count(what), due[what]);
        }
        Doc.says("Promise 32", "8 to 10 the PARAMS (limit, gap, window).");
        for (int i = 0; i < 3; i++) {
            Check.same("param " + i, x.count(8 + i), 11 + i);
        }
    }

    private static void countOfNothing() {
        Doc.says("Promise 32", "NoSuchElementException: another what.");
        MapRun x = new MapRun();
        int[] wrong = {11, -1, Integer.MIN_VALUE, Integer.MAX_VALUE};
        for (int what : wrong) {
            Check.noSuch("what " + what, () -> x.count(what));
        }
        Check.same("0 is one", x.count(0), 0);
        Check.same("10 is one", x.count(10), 900);
    }
}
