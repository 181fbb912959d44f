/** Promises 30 to 32: track, lost, count. */
public final class TrackTest {
    public static void main(String[] args) {
        track();
        faults();
        tape();
        lost();
        lostInOrder();
        oneCellForSeveral();
        count();
        Check.end();
    }

    private static void track() {
        MapRun x = Make.square();
        Check.same("down, right with climb, up", Check.track(x, 0, "dru"), 5 + 5 + 6 + 5);
        Check.same("no fault", x.fault(), -1);
        Check.same("blanks", Check.track(x, 0, " d\nr u \n"), 21);
        Check.same("nothing", Check.track(x, 0, ""), 0);
        Check.same("all four", Check.track(x, 0, "drlu"), 5 + 11 + 5 + 5);
    }

    private static void fault(String text, int answer, int at) {
        MapRun x = Make.square();
        Check.same(text, Check.track(x, 0, text), answer);
        Check.same("place of " + text, x.fault(), at);
        Check.same("the tape is empty", x.count(7), 0);
    }

    private static void faults() {
        fault("x", -2, 0);
        fault("d U", -2, 2);
        fault("d\tr", -2, 1);
        fault("r", -3, 0);
        fault("l", -3, 0);
        fault("u", -3, 0);
        fault("ddd", -3, 2);
        fault("ddr r", -3, 4);
        fault("drur x r r", -2, 5);
        fault("drurr x", -3, 4);
        fault("dru" + (char) 245, -2, 3);
    }

    private static void tape() {
        MapRun x = Make.square();
        Check.badArgument("1 of none", () -> x.track(0, 1));
        Check.badArgument("-1", () -> x.track(0, -1));
        Check.same("a fault", Check.track(x, 0, "ddx"), -2);
        x.feed(0x64202020, 0x20202020, 0x20202020, 0x20202020, 0x20202020);
        Check.noSuch("nobody", () -> x.track(2, 21));
        Check.noSuch("-1", () -> x.track(-1, 1));
        Check.badArgument("21 of 20", () -> x.track(0, 21));
        Check.same("the tape stays", x.count(7), 20);
        Check.same("the fault stays", x.fault(), 2);
        Check.same("its first one", x.track(0, 1), 5);
        Check.same("it is empty then", x.count(7), 0);
        Check.same("rules tell of theirs", Check.rules(x, "  ?"), 1);
        Check.same("fault", x.fault(), 2);
        Check.track(x, 0, "d");
        Check.same("none by a track", x.fault(), -1);
    }

    private static void lost() {
        MapRun x = Make.square(20);
        Check.same("length", x.row(0, 100), 10 + 21);
        Check.same("none yet", x.lost(0), -100000);
        Check.noSuch("nobody", () -> x.lost(2));
        Check.noSuch("-1", () -> x.lost(-1));
        Check.same("least", Check.track(x, 0, "ddruu"), 5 + 5 + 5 + 11 + 5);
        Check.same("lost none", x.lost(0), 0);
        Check.same("the other one", x.lost(1), -100000);
        Check.same("a round more", Check.track(x, 0, "ddudruu"), 41);
        Check.same("lost ten", x.lost(0), 10);
        Check.track(x, 0, "ddx");
        Check.same("one with a fault leaves it", x.lost(0), 10);
        Check.track(x, 0, "ddru");
        Check.same("not at the finish", x.lost(0), -100000);
        Check.track(x, 0, "dru");
        Check.same("not by the post", x.lost(0), -100000);
        Check.track(x, 0, "ddruu");
        Check.same("again", x.lost(0), 0);
    }

    private static void lostInOrder() {
        MapRun x = new MapRun();
        x.land(5, 1);
        x.gates(1, 0, 1, 0);
        x.course(false);
        int[] cells = {1, 3, 2, 1};
        for (int c : cells) {
            int p = x.post(c, 0, 0);
            x.add(0, p, p, p);
        }
        x.runner(0, 0, 0);
        Check.same("length", x.row(0, 100), 20);
        Check.track(x, 0, "rrll");
        Check.same("the start and the end too count as come by", x.lost(0), 0);
        Check.track(x, 0, "rrrlll");
        Check.same("one too far", x.lost(0), 10);
        Check.track(x, 0, "rl");
        Check.same("not by 3", x.lost(0), -100000);
        Check.track(x, 0, "");
        Check.same("nowhere", x.lost(0), -100000);
        MapRun y = new MapRun();
        y.course(false);
        y.runner(0, 0, 0);
        Check.same("an empty track", Check.track(y, 0, ""), 0);
        Check.same("of an empty row", y.lost(0), 0);
    }

    private static void oneCellForSeveral() {
        MapRun x = new MapRun();
        x.land(3, 1);
        x.gates(0, 0, 2, 0);
        x.course(false);
        int a = x.post(1, 0, 0);
        int b = x.post(1, 0, 0);
        int c = x.post(0, 0, 0);
        x.add(0, a, a, a);
        x.add(0, b, b, b);
        x.add(0, a, a, a);
        x.runner(0, 0, 0);
        x.course(false);
        x.add(1, a, a, a);
        x.add(1, c, c, c);
        x.add(1, b, b, b);
        x.runner(1, 0, 0);
        Check.track(x, 0, "rr");
        Check.same("side by side", x.lost(0), 0);
        Check.track(x, 1, "rr");
        Check.same("not with another between", x.lost(1), -100000);
        Check.track(x, 1, "rlrr");
        Check.same("there and back", x.lost(1), 0);
    }

    private static void count() {
        MapRun x = new MapRun();
        x.land(2, 2);
        x.post(0, 0, 0);
        x.post(0, 1, 0);
        x.course(false);
        x.course(false);
        x.course(true);
        for (int i = 0; i < 4; i++) {
            x.runner(0, 0, 0);
        }
        x.team(0, 1, 2);
        x.go(11);
        for (int i = 0; i < 6; i++) {
            x.event(2, 0, 0, 0);
        }
        for (int i = 0; i < 5; i++) {
            x.protest(0);
        }
        Check.rules(x, "set limit 8; set gap 9; set window 10;");
        x.feed(0, 0, 0, 0, 0);
        int[] due = {11, 2, 3, 4, 1, 6, 5, 20, 8, 9, 10};
        for (int what = 0; what < due.length; what++) {
            Check.same("count " + what, x.count(what), due[what]);
        }
        Check.noSuch("11", () -> x.count(11));
        Check.noSuch("-1", () -> x.count(-1));
        Check.noSuch("least", () -> x.count(Integer.MIN_VALUE));
    }
}
