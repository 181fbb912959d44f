/** Promises 25 and 26: protest, decide. */
public final class ProtestsTest {
    public static void main(String[] args) {
        protest();
        window();
        most();
        decide();
        verdicts();
        added();
        lastDecided();
        Check.end();
    }

    /** A runner that missed its one post, from 0 to 10, told at 10. */
    private static MapRun missed(boolean free) {
        MapRun x = new MapRun();
        x.post(0, 0, 50);
        x.course(free);
        x.add(0, 0, 0, 0);
        x.runner(0, 0, 0);
        x.event(0, 0, 0, 0);
        x.go(10);
        x.event(2, 0, 0, 10);
        return x;
    }

    private static void protest() {
        MapRun x = missed(false);
        x.runner(0, 0, 0);
        Check.same("no finish", x.protest(1), -1);
        Check.noSuch("nobody", () -> x.protest(2));
        Check.noSuch("-1", () -> x.protest(-1));
        x.event(2, 1, 0, 3);
        Check.same("without a start", x.protest(1), 0);
        x.back(2);
        Check.same("taken back", x.protest(1), -1);
        Check.same("protests", x.count(6), 1);
    }

    private static void window() {
        MapRun x = missed(false);
        x.go(900);
        Check.same("900 behind", x.protest(0), 0);
        x.go(1);
        Check.same("901 behind", x.protest(0), -1);
        Check.rules(x, "set window 901;");
        Check.same("a longer window", x.protest(0), 1);
        Check.rules(x, "set window 0;");
        Check.same("none", x.protest(0), -1);
        x.event(2, 0, 0, 1);
        Check.same("told now, of long ago", x.protest(0), 2);
        x.back(2);
        Check.same("the one ahead is too old", x.protest(0), -1);
    }

    private static void most() {
        MapRun x = missed(false);
        for (int i = 0; i < 40; i++) {
            Check.same("protest " + i, x.protest(0), i);
        }
        Check.same("the 41st", x.protest(0), -1);
        Check.same("protests", x.count(6), 40);
    }

    private static void decide() {
        MapRun x = missed(false);
        x.protest(0);
        Check.noSuch("1", () -> Check.of(x.decide(1, 0, 0)));
        Check.noSuch("-1", () -> Check.of(x.decide(-1, 3, 0)));
        Check.no("how 3", x.decide(0, 3, 0));
        Check.no("how -1", x.decide(0, -1, 0));
        Check.no("1000", x.decide(0, 1, 1000));
        Check.no("-1000", x.decide(0, 1, -1000));
        Check.no("refused with 1000", x.decide(0, 0, 1000));
        Check.yes("-999", x.decide(0, 1, -999));
        Check.no("once", x.decide(0, 2, 0));
        Check.same("total", x.judged(0, 7, 10), 10 - 999);
    }

    private static void verdicts() {
        MapRun x = missed(false);
        x.protest(0);
        x.protest(0);
        x.protest(0);
        x.go(5);
        x.decide(0, 0, 5);
        Check.same("refused", x.judged(0, 0, 15), 3);
        x.decide(1, 1, 0);
        Check.same("it counts", x.judged(0, 0, 15), 4);
        Check.same("missed still", x.judged(0, 3, 15), 1);
        Check.same("refused adds nothing", x.judged(0, 7, 15), 10);
        Check.same("not known yet", x.judged(0, 0, 14), 3);
        Check.rules(x, "out 1;");
        Check.same("by rules out or not", x.judged(0, 0, 15), 4);
        Check.same("out then", x.judged(0, 0, 14), 2);
        x.go(1);
        x.decide(2, 2, 0);
        Check.same("out", x.judged(0, 0, 16), 2);
        Check.same("counted then", x.judged(0, 0, 15), 4);
        x.event(0, 0, 0, 99);
        Check.same("it waits first", x.judged(0, 0, 16), 0);
    }

    private static void added() {
        MapRun x = missed(false);
        for (int i = 0; i < 4; i++) {
            x.protest(0);
        }
        x.decide(0, 1, 7);
        x.decide(1, 0, 100);
        x.decide(2, 2, 20);
        x.decide(3, 1, -2);
        Check.same("all but the refused come together", x.judged(0, 7, 10), 10 + 25);
        Check.same("none is penalty", x.judged(0, 6, 10), 0);
        MapRun y = missed(true);
        y.event(1, 0, 0, 5);
        y.protest(0);
        y.decide(0, 1, 7);
        Check.rules(y, "penalty 3;");
        Check.same("points less", y.judged(0, 7, 10), 50 - 3 - 7);
    }

    private static void lastDecided() {
        MapRun x = missed(false);
        x.protest(0);
        x.protest(0);
        x.protest(0);
        x.decide(1, 1, 0);
        x.decide(0, 2, 0);
        Check.same("by when it was decided, not by number", x.judged(0, 0, 10), 2);
        x.go(1);
        x.decide(2, 1, 0);
        Check.same("the last", x.judged(0, 0, 11), 4);
        Check.same("of then", x.judged(0, 0, 10), 2);
    }
}
