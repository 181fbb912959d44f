/** Promises 16 to 21: go, event, back, judged, split, ofTeam. */
public final class JudgedTest {
    public static void main(String[] args) {
        go();
        event();
        mostEvents();
        back();
        states();
        asKnown();
        kept();
        keptFirstRow();
        keptByTimeThenNumber();
        free();
        places();
        placesFree();
        teamStarts();
        ofTeam();
        wrongQuestions();
        Check.end();
    }

    private static void go() {
        MapRun x = new MapRun();
        Check.same("0", x.go(0), 0);
        Check.same("7", x.go(7), 7);
        Check.badArgument("-1", () -> x.go(-1));
        Check.badArgument("too far", () -> x.go(99993));
        Check.badArgument("most", () -> x.go(Integer.MAX_VALUE));
        Check.badArgument("least", () -> x.go(Integer.MIN_VALUE));
        Check.same("nothing changed", x.count(0), 7);
        Check.same("to the end", x.go(99992), 99999);
        Check.same("stays", x.go(0), 99999);
        Check.badArgument("no more", () -> x.go(1));
    }

    private static void event() {
        MapRun x = Make.course(false, 0);
        x.runner(0, 0, 0);
        x.go(10);
        Check.same("start later", x.event(0, 0, -5, 99999), 0);
        Check.same("start beyond", x.event(0, 0, 0, 100000), -1);
        Check.same("start below", x.event(0, 0, 0, -1), -1);
        Check.same("punch now", x.event(1, 0, 4, 10), 1);
        Check.same("punch later", x.event(1, 0, 4, 11), -1);
        Check.same("punch below", x.event(1, 0, 4, -1), -1);
        Check.same("finish now", x.event(2, 0, 99, 10), 2);
        Check.same("finish later", x.event(2, 0, 0, 11), -1);
        Check.noSuch("kind 3", () -> x.event(3, 0, 0, 0));
        Check.noSuch("kind -1", () -> x.event(-1, 0, 0, 0));
        Check.noSuch("runner", () -> x.event(0, 1, 0, 0));
        Check.noSuch("post", () -> x.event(1, 0, 5, 0));
        Check.noSuch("post, later", () -> x.event(1, 0, -1, 11));
        Check.same("events", x.count(5), 3);
    }

    private static void mostEvents() {
        MapRun x = Make.race(false);
        for (int i = 1; i < 500; i++) {
            Check.same("event " + i, x.event(i % 3, 0, 0, 0), i);
        }
        Check.same("the 501st", x.event(0, 0, 0, 0), -1);
        Check.noSuch("the 501st of nobody", () -> x.event(0, 1, 0, 0));
    }

    private static void back() {
        MapRun x = Make.course(false, 0);
        x.runner(0, 0, 0);
        Check.noSuch("none yet", () -> Check.of(x.back(0)));
        x.event(0, 0, 0, 0);
        x.go(5);
        Check.yes("back", x.back(0));
        Check.no("it was", x.back(0));
        Check.noSuch("-1", () -> Check.of(x.back(-1)));
        Check.noSuch("1", () -> Check.of(x.back(1)));
        Check.same("known till then", x.judged(0, 1, 4), 0);
        Check.same("from then on not", x.judged(0, 1, 5), -1);
        Check.same("its number stays", x.count(5), 1);
    }

    private static void states() {
        MapRun x = Make.course(false, 0);
        x.runner(0, 0, 0);
        Check.same("waits", x.judged(0, 0, 0), 0);
        Check.same("no start", x.judged(0, 1, 0), -1);
        Check.same("no finish", x.judged(0, 2, 0), -1);
        Check.same("missed all", x.judged(0, 3, 0), 1);
        x.event(0, 0, 0, 3);
        x.go(2);
        Check.same("waits for its start", x.judged(0, 0, 2), 0);
        Check.same("its start", x.judged(0, 1, 2), 3);
        x.go(1);
        Check.same("runs", x.judged(0, 0, 3), 1);
        x.event(2, 0, 0, 2);
        Check.same("finish before the start", x.judged(0, 0, 3), 1);
        Check.same("that finish", x.judged(0, 2, 3), 2);
        x.event(2, 0, 0, 3);
        Check.same("missed", x.judged(0, 0, 3), 3);
        Check.same("no total", x.judged(0, 7, 3), -100000);
        Check.same("no place", x.judged(0, 8, 3), -1);
        x.event(1, 0, 0, 0);
        Check.same("counts", x.judged(0, 0, 3), 4);
        Check.same("total 0", x.judged(0, 7, 3), 0);
        Check.same("place", x.judged(0, 8, 3), 1);
        Check.same("split before the start", x.split(0, 0, 3), -3);
        Check.rules(x, "out 1;");
        Check.same("out by rules", x.judged(0, 0, 3), 2);
        Check.same("no total", x.judged(0, 7, 3), -100000);
        Check.rules(x, "out 0;penalty 5;");
        Check.same("counts", x.judged(0, 0, 3), 4);
        Check.same("penalty", x.judged(0, 6, 3), 5);
        Check.same("total", x.judged(0, 7, 3), 5);
        Check.same("asked of then, by rules of now", x.judged(0, 6, 0), 5);
    }

    private static void asKnown() {
        MapRun x = Make.course(false, 0);
        x.runner(0, 0, 0);
        x.event(0, 0, 0, 0);
        x.go(10);
        x.event(2, 0, 0, 8);
        x.event(2, 0, 0, 6);
        Check.same("the latest told", x.judged(0, 2, 10), 6);
        Check.same("not told yet", x.judged(0, 2, 9), -1);
        x.go(10);
        x.event(1, 0, 0, 4);
        Check.same("missed then", x.judged(0, 0, 19), 3);
        Check.same("counts now", x.judged(0, 0, 20), 4);
        x.back(2);
        Check.same("the one ahead again", x.judged(0, 2, 20), 8);
        Check.same("then it was this", x.judged(0, 2, 19), 6);
        x.event(0, 0, 0, 2);
        Check.same("start told anew", x.judged(0, 7, 20), 6);
    }

    private static void kept() {
        MapRun x = Make.course(false, 0, 1, 2, 3);
        x.runner(0, 0, 0);
        x.go(100);
        x.event(0, 0, 0, 10);
        Make.punch(x, 0, 0, 20, 2, 30, 1, 40, 3, 50, 4, 60, 4, 70);
        Check.same("one missed", x.judged(0, 3, 100), 1);
        Check.same("two wrong", x.judged(0, 4, 100), 2);
        Check.same("score", x.judged(0, 5, 100), 1 + 2 + 8);
        Check.same("split 0", x.split(0, 0, 100), 10);
        Check.same("split 1, first as a row of places", x.split(0, 1, 100), 30);
        Check.same("split 2", x.split(0, 2, 100), -1);
        Check.same("split 3", x.split(0, 3, 100), 40);
        Check.noSuch("split 4", () -> x.split(0, 4, 100));
        Check.noSuch("split -1", () -> x.split(0, -1, 100));
        Check.noSuch("split 100", () -> x.split(0, 100, 100));
        Check.badArgument("split at 101", () -> x.split(0, 0, 101));
        Check.badArgument("split at -1", () -> x.split(0, 0, -1));
        Check.noSuch("split of nobody", () -> x.split(1, 0, 101));
        x.back(0);
        Check.same("no start, no split", x.split(0, 0, 100), -1);
    }

    private static void keptFirstRow() {
        MapRun x = Make.course(false, 0, 1, 0, 1);
        x.runner(0, 0, 0);
        x.go(100);
        x.event(0, 0, 0, 0);
        Make.punch(x, 0, 1, 10, 0, 20);
        // one of each punch: places 1 and 2 are the only row of two
        Check.same("split 0", x.split(0, 0, 100), -1);
        Check.same("split 1", x.split(0, 1, 100), 10);
        Check.same("split 2", x.split(0, 2, 100), 20);
        Check.same("split 3", x.split(0, 3, 100), -1);
        Make.punch(x, 0, 1, 30);
        // now 1 0 1: places 1, 2, 3
        Check.same("three", x.judged(0, 3, 100), 1);
        Make.punch(x, 0, 0, 5);
        Check.same("all", x.judged(0, 3, 100), 0);
        Check.same("the second 0 by another punch", x.split(0, 2, 100), 20);
        MapRun y = Make.course(false, 0, 0, 0);
        y.runner(0, 0, 0);
        y.event(0, 0, 0, 0);
        Make.punch(y, 0, 0, 0);
        Check.same("one punch keeps the first place", y.split(0, 0, 0), 0);
        Check.same("and that alone", y.judged(0, 3, 0), 2);
        Check.same("its score once", y.judged(0, 5, 0), 1);
        Check.same("none wrong", y.judged(0, 4, 0), 0);
    }

    private static void keptByTimeThenNumber() {
        MapRun x = Make.course(false, 0, 1);
        x.runner(0, 0, 0);
        x.runner(0, 0, 0);
        x.go(50);
        Make.punch(x, 0, 1, 20, 0, 20);
        Check.same("of like t by number", x.judged(0, 3, 50), 1);
        Make.punch(x, 1, 1, 21, 0, 20);
        Check.same("by t", x.judged(1, 3, 50), 0);
        x.event(0, 0, 0, 0);
        Make.punch(x, 0, 1, 20);
        Check.same("a third of like t", x.judged(0, 3, 50), 0);
        Check.same("split", x.split(0, 1, 50), 20);
    }

    private static void free() {
        MapRun x = Make.course(true, 3, 0, 3);
        x.runner(0, 0, 0);
        x.go(50);
        x.event(0, 0, 0, 10);
        Make.punch(x, 0, 3, 30, 3, 20, 1, 25);
        Check.same("none missed", x.judged(0, 3, 50), 0);
        Check.same("wrong", x.judged(0, 4, 50), 1);
        Check.same("each place once", x.judged(0, 5, 50), 16);
        Check.same("first such punch", x.split(0, 0, 50), 10);
        Check.same("not punched", x.split(0, 1, 50), -1);
        Check.same("the other place too", x.split(0, 2, 50), 10);
        x.event(2, 0, 0, 40);
        Check.same("counts", x.judged(0, 0, 50), 4);
        Check.rules(x, "penalty 5; penalty 0 - 7 unless not free;");
        Check.same("penalty", x.judged(0, 6, 50), -2);
        Check.same("total", x.judged(0, 7, 50), 18);
    }

    private static void places() {
        MapRun x = Make.course(false);
        x.course(false);
        x.go(100);
        int[] runs = {50, 40, 50, 60};
        for (int i = 0; i < 4; i++) {
            x.runner(0, i, 0);
            x.event(0, i, 0, 10);
            x.event(2, i, 0, 10 + runs[i]);
        }
        x.runner(1, 0, 0);
        x.event(0, 4, 0, 10);
        x.event(2, 4, 0, 11);
        x.runner(0, 0, 0);
        x.event(0, 5, 0, 10);
        int[] due = {2, 1, 2, 4, 1, -1};
        for (int i = 0; i < 6; i++) {
            Check.same("place of " + i, x.judged(i, 8, 100), due[i]);
        }
        Check.rules(x, "penalty 20 * (club = 1);");
        int[] then = {1, 3, 1, 3, 1, -1};
        for (int i = 0; i < 6; i++) {
            Check.same("place then of " + i, x.judged(i, 8, 100), then[i]);
        }
    }

    private static void placesFree() {
        MapRun x = Make.course(true, 0, 1, 2);
        x.go(100);
        int[] runs = {50, 40, 50, 60, 10};
        int[] posts = {2, 2, 2, -1, 1};
        for (int i = 0; i < 5; i++) {
            x.runner(0, i, 0);
            x.event(0, i, 0, 10);
            x.event(2, i, 0, 10 + runs[i]);
            if (posts[i] >= 0) {
                Make.punch(x, i, posts[i], 20);
            }
        }
        int[] due = {2, 1, 2, 5, 4};
        for (int i = 0; i < 5; i++) {
            Check.same("place of " + i, x.judged(i, 8, 100), due[i]);
        }
    }

    private static void teamStarts() {
        MapRun x = Make.course(false);
        for (int i = 0; i < 3; i++) {
            x.runner(0, 0, 0);
        }
        x.go(100);
        x.event(0, 1, 0, 7);
        Check.same("as told", x.judged(1, 1, 100), 7);
        x.team(0, 1, 2);
        Check.same("whatever is told", x.judged(1, 1, 100), -1);
        x.event(2, 0, 0, 30);
        Check.same("finish of the one ahead", x.judged(1, 1, 100), 30);
        Check.same("though it has no start", x.judged(0, 0, 100), 0);
        Check.same("runs", x.judged(1, 0, 100), 1);
        Check.same("the third waits", x.judged(2, 0, 100), 0);
        x.event(2, 1, 0, 20);
        Check.same("before its start", x.judged(1, 0, 100), 1);
        Check.same("the third starts all the same", x.judged(2, 1, 100), 20);
        x.event(2, 1, 0, 45);
        Check.same("total of the second", x.judged(1, 7, 100), 15);
        Check.same("the third starts then", x.judged(2, 1, 100), 45);
    }

    private static void ofTeam() {
        MapRun x = Make.course(false);
        x.course(false);
        for (int i = 0; i < 12; i++) {
            x.runner(i < 9 ? 0 : 1, i % 3, 0);
        }
        for (int i = 0; i < 12; i += 3) {
            Check.same("team", x.team(i, i + 1, i + 2), i / 3);
        }
        x.go(100);
        int[][] finishes = {{30, 50, 90}, {20, 60, 80}, {20, 60, -1}, {1, 2, 3}};
        for (int t = 0; t < 4; t++) {
            x.event(0, 3 * t, 0, t == 1 ? 0 : 1);
            for (int leg = 0; leg < 3; leg++) {
                if (finishes[t][leg] >= 0) {
                    x.event(2, 3 * t + leg, 0, finishes[t][leg]);
                }
            }
        }
        int[] times = {89, 80, -100000, 2};
        int[] places = {2, 1, -1, 1};
        for (int t = 0; t < 4; t++) {
            Check.same("time of " + t, x.ofTeam(t, 0, 100), times[t]);
            Check.same("place of " + t, x.ofTeam(t, 1, 100), places[t]);
        }
        Check.same("not known yet", x.ofTeam(0, 0, 99), -100000);
        Check.rules(x, "penalty club;");
        Check.same("all three penalties", x.ofTeam(0, 0, 100), 89 + 3);
        x.protest(3);
        x.protest(5);
        x.decide(0, 1, 4);
        x.decide(1, 1, 5);
        Check.same("and what protests add", x.ofTeam(1, 0, 100), 80 + 3 + 9);
        Check.same("of like times the same place", x.ofTeam(0, 1, 100), 1);
        Check.same("of like times the same place", x.ofTeam(1, 1, 100), 1);
        x.protest(4);
        x.decide(2, 2, 0);
        Check.same("one is out", x.ofTeam(1, 0, 100), -100000);
        Check.noSuch("team 4", () -> x.ofTeam(4, 0, 100));
        Check.noSuch("team -1", () -> x.ofTeam(-1, 0, 100));
        Check.noSuch("what 2", () -> x.ofTeam(0, 2, 100));
        Check.noSuch("what -1, at no second", () -> x.ofTeam(0, -1, 101));
        Check.badArgument("at 101", () -> x.ofTeam(0, 0, 101));
        Check.badArgument("at -1", () -> x.ofTeam(0, 1, -1));
    }

    private static void wrongQuestions() {
        MapRun x = Make.course(false, 0);
        x.runner(0, 0, 0);
        x.go(5);
        Check.noSuch("what 9", () -> x.judged(0, 9, 0));
        Check.noSuch("what -1", () -> x.judged(0, -1, 0));
        Check.noSuch("runner 1", () -> x.judged(1, 0, 0));
        Check.noSuch("runner -1, at no second", () -> x.judged(-1, 0, 6));
        Check.noSuch("what 9, at no second", () -> x.judged(0, 9, 6));
        Check.badArgument("at 6", () -> x.judged(0, 0, 6));
        Check.badArgument("at -1", () -> x.judged(0, 8, -1));
        Check.same("at 5", x.judged(0, 0, 5), 0);
    }
}
