/** Terms 3 and promises 16 to 21, sentence by sentence. */
final class EdgesTime {
    private static final String TERMS = "Terms 3";

    private EdgesTime() { }

    static void all() {
        time();
        eventsAtMost();
        secondsOfEvents();
        kindsOfEvents();
        takenBack();
        asKnown();
        rulesAndTeamsAsTheyAre();
        start();
        startInATeam();
        finish();
        punchesInOrder();
        longestRow();
        eachByAnother();
        fullRows();
        manyPunches();
        coursesByTurns();
        firstRowOfPlaces();
        missed();
        split();
        splitEarliest();
        freeKept();
        wrong();
        wrongOfOneAlone();
        score();
        run();
        go();
        event();
        noMoreEvents();
        back();
        judged();
        judgedWithoutAnything();
        judgedRefused();
        splitOf();
        splitNone();
        splitRefused();
        ofTeam();
        ofTeamRefused();
    }

    private static void time() {
        Doc.says(TERMS, "TIME goes by seconds from 0 to 99999");
        MapRun x = new MapRun();
        Check.same("to the last one", x.go(99999), 99999);
        Check.badArgument("not beyond", () -> x.go(1));
        MapRun y = new MapRun();
        Check.badArgument("not beyond at once", () -> y.go(100000));
        Check.same("second by second", y.go(1), 1);
        Check.same("and by more", y.go(98), 99);
        Doc.says(TERMS, "NOW is 0 at first.");
        Check.same("NOW", new MapRun().count(0), 0);
    }

    private static void eventsAtMost() {
        Doc.says(TERMS, "EVENTS, numbered from 0 on, at most 500");
        MapRun x = Make.course(false, 0);
        x.runner(0, 0, 0);
        for (int i = 0; i < 499; i++) {
            Check.same("the next number", x.event(i % 3, 0, 0, 0), i);
        }
        Check.yes("one taken back leaves no room", x.back(7));
        Check.same("the 500th", x.event(2, 0, 0, 0), 499);
        Check.same("the 501st", x.event(2, 0, 0, 0), -1);
    }

    private static void secondsOfEvents() {
        Doc.says(TERMS, "each of a RUNNER, at a second t up to NOW, told NOW");
        MapRun x = Make.course(false, 0);
        x.runner(0, 0, 0);
        x.runner(0, 0, 0);
        x.go(10);
        Check.same("a punch NOW", x.event(1, 0, 0, 10), 0);
        Check.same("a punch later", x.event(1, 0, 0, 11), -1);
        Check.same("a finish NOW", x.event(2, 0, 0, 10), 1);
        Check.same("a finish later", x.event(2, 0, 0, 11), -1);
        Check.same("at 0", x.event(2, 0, 0, 0), 2);
        Check.same("below 0", x.event(2, 0, 0, -1), -1);
        Check.same("of that runner", x.judged(0, 2, 10), 0);
        Check.same("not of another", x.judged(1, 2, 10), -1);
        Check.same("told NOW, not at t", x.judged(0, 2, 9), -1);
    }

    private static void kindsOfEvents() {
        Doc.says(TERMS, "0 STARTS (t may be later, to 99999)");
        MapRun x = Make.course(false, 0);
        x.runner(0, 0, 0);
        x.go(10);
        Check.same("later", x.event(0, 0, 0, 11), 0);
        Check.same("the last second", x.event(0, 0, 0, 99999), 1);
        Check.same("beyond", x.event(0, 0, 0, 100000), -1);
        Check.same("below", x.event(0, 0, 0, -1), -1);
        Check.same("0", x.event(0, 0, 0, 0), 2);
        Check.same("its start", x.judged(0, 1, 10), 0);
        Doc.says(TERMS, "1 PUNCHES a POST");
        Check.same("a punch", x.event(1, 0, 0, 4), 3);
        Check.same("of its post", x.split(0, 0, 10), 4);
        Check.same("no start", x.judged(0, 1, 10), 0);
        Check.same("no finish", x.judged(0, 2, 10), -1);
        Doc.says(TERMS, "2 FINISHES.");
        Check.same("a finish", x.event(2, 0, 0, 9), 4);
        Check.same("its finish", x.judged(0, 2, 10), 9);
    }

    private static void takenBack() {
        Doc.says(TERMS, "One may be TAKEN BACK (from that second on it isn't known).");
        MapRun x = Make.race(false, 0);
        x.event(1, 0, 0, 50);
        x.event(2, 0, 0, 60);
        x.go(10);
        x.back(1);
        Check.same("a second ahead it is known", x.judged(0, 0, 109), 4);
        Check.same("at that second it isn't", x.judged(0, 0, 110), 3);
        x.go(1);
        Check.same("nor behind it", x.judged(0, 0, 111), 3);
        x.event(0, 0, 0, 5);
        x.back(3);
        Check.same("told and taken back in one second", x.judged(0, 1, 111), 0);
        x.back(0);
        Check.same("no start now", x.judged(0, 1, 111), -1);
    }

    private static void asKnown() {
        Doc.says(TERMS, "AS KNOWN at k: EVENTS told at k or ahead");
        MapRun x = Make.race(false, 0);
        x.event(2, 0, 0, 40);
        Check.same("told at k", x.judged(0, 2, 100), 40);
        Check.same("a second ahead", x.judged(0, 2, 99), -1);
        Check.same("at its t", x.judged(0, 2, 40), -1);
        x.go(5);
        Check.same("ahead of k", x.judged(0, 2, 105), 40);
        Doc.says(TERMS, "not TAKEN BACK at k or ahead");
        x.back(1);
        x.go(5);
        Check.same("behind it", x.judged(0, 2, 110), -1);
        Check.same("at it", x.judged(0, 2, 105), -1);
        Check.same("ahead of it", x.judged(0, 2, 104), 40);
    }

    private static void rulesAndTeamsAsTheyAre() {
        Doc.says(TERMS, "(RULES and TEAMS count as they are when it is asked).");
        MapRun x = Make.runners(3);
        x.event(0, 1, 0, 0);
        x.event(2, 0, 0, 0);
        x.go(10);
        Check.rules(x, "penalty 6;");
        Check.same("rules of now, of then", x.judged(0, 6, 0), 6);
        Check.same("no team", x.judged(1, 1, 5), 0);
        x.event(2, 0, 0, 3);
        x.team(0, 1, 2);
        Check.same("a team of now, of then", x.judged(1, 1, 5), 0);
        Check.same("by the finish ahead", x.judged(1, 1, 10), 3);
        x.back(1);
        x.back(2);
        Check.same("not by what was told", x.judged(1, 1, 10), -1);
        Check.rules(x, "");
        Check.same("no rules now", x.judged(0, 6, 10), 0);
    }

    private static void start() {
        Doc.says(TERMS, "START of a RUNNER: t of the latest told STARTS");
        MapRun x = Make.course(false);
        x.runner(0, 0, 0);
        x.event(0, 0, 0, 30);
        x.event(0, 0, 0, 20);
        Check.same("the latest told, not the latest t", x.judged(0, 1, 0), 20);
        x.go(5);
        x.event(0, 0, 0, 40);
        Check.same("told later", x.judged(0, 1, 5), 40);
        Check.same("as known then", x.judged(0, 1, 4), 20);
        x.back(2);
        Check.same("the one ahead when it is taken back", x.judged(0, 1, 5), 20);
        x.back(0);
        Check.same("the other one's end changes nothing", x.judged(0, 1, 5), 20);
    }

    private static void startInATeam() {
        Doc.says(TERMS, "of the second and third of a TEAM the FINISH of the one ahead, whatever is told.");
        MapRun x = Make.runners(4);
        x.team(2, 0, 1);
        for (int i = 0; i < 4; i++) {
            x.event(0, i, 0, i);
        }
        x.go(50);
        Check.same("the first starts as told", x.judged(2, 1, 50), 2);
        Check.same("the second not yet", x.judged(0, 1, 50), -1);
        Check.same("nor the third", x.judged(1, 1, 50), -1);
        Check.same("one in no team as told", x.judged(3, 1, 50), 3);
        x.event(2, 2, 0, 20);
        Check.same("the second then", x.judged(0, 1, 50), 20);
        Check.same("the third not yet", x.judged(1, 1, 50), -1);
        x.event(2, 0, 0, 10);
        Check.same("the third, though it is before the second's start", x.judged(1, 1, 50), 10);
        Check.same("the second stays", x.judged(0, 1, 50), 20);
    }

    private static void finish() {
        Doc.says(TERMS, "FINISH: t of the latest told FINISHES.");
        MapRun x = Make.race(false);
        x.event(2, 0, 0, 90);
        x.event(2, 0, 0, 80);
        Check.same("the latest told, not the latest t", x.judged(0, 2, 100), 80);
        x.go(1);
        x.event(2, 0, 0, 85);
        Check.same("told later", x.judged(0, 2, 101), 85);
        x.back(3);
        Check.same("the one ahead", x.judged(0, 2, 101), 80);
    }

    private static void punchesInOrder() {
        Doc.says(TERMS, "PUNCHES by t, of like t by number.");
        MapRun x = Make.race(false, 0, 1);
        Make.punch(x, 0, 1, 30, 0, 29);
        Check.same("by t, not by number", x.judged(0, 3, 100), 0);
        MapRun y = Make.race(false, 0, 1);
        Make.punch(y, 0, 1, 30, 0, 30);
        Check.same("of like t by number", y.judged(0, 3, 100), 1);
        Make.punch(y, 0, 1, 30);
        Check.same("a third of that t", y.judged(0, 3, 100), 0);
        y.back(3);
        Check.same("taken back", y.judged(0, 3, 100), 1);
        MapRun z = Make.race(false, 0, 1);
        Make.punch(z, 0, 0, 30, 1, 30);
        Check.same("one of like t behind the other", z.judged(0, 3, 100), 0);
    }

    private static void longestRow() {
        Doc.says(TERMS, "JUDGED, on a COURSE IN ORDER: KEPT are those POSTS of its ROW (as places in it) that make the "
                + "longest row which is found, in this order, in the PUNCHES");
        MapRun x = Make.race(false, 0, 1, 2, 3);
        Make.punch(x, 0, 3, 10, 0, 20, 2, 30, 1, 40, 3, 50);
        Check.same("three of four", x.judged(0, 3, 100), 1);
        int[] due = {20, -1, 30, 50};
        Make.punch(x, 0, 2, 41);
        Check.same("all four then", x.judged(0, 3, 100), 0);
        x.back(4);
        for (int place = 0; place < 4; place++) {
            Check.same("place " + place + " without 1", x.split(0, place, 100), due[place]);
        }
        MapRun tempting = Make.race(false, 0, 1, 2);
        Make.punch(tempting, 0, 1, 10, 2, 20, 0, 30);
        Check.same("two far behind beat the first one", tempting.split(0, 0, 100), -1);
        Check.same("kept", tempting.split(0, 1, 100), 10);
        Check.same("kept too", tempting.split(0, 2, 100), 20);
        Make.punch(tempting, 0, 0, 40);
        Check.same("a second punch of it does not help", tempting.judged(0, 3, 100), 1);
        Check.same("it is not kept", tempting.split(0, 0, 100), -1);
        MapRun none = Make.race(false, 0);
        Check.same("no punches, none kept", none.judged(0, 3, 100), 1);
        Check.same("no posts, none missed", Make.race(false).judged(0, 3, 100), 0);
    }

    private static void eachByAnother() {
        Doc.says(TERMS, "(each by another one)");
        MapRun x = Make.race(false, 0, 0, 0);
        Make.punch(x, 0, 0, 10);
        Check.same("one punch keeps one place", x.judged(0, 3, 100), 2);
        Make.punch(x, 0, 0, 10);
        Check.same("two of them two, at one second too", x.judged(0, 3, 100), 1);
        Check.same("the first", x.split(0, 0, 100), 10);
        Check.same("the second", x.split(0, 1, 100), 10);
        Check.same("not the third", x.split(0, 2, 100), -1);
        MapRun y = Make.race(false, 0, 1);
        Make.punch(y, 0, 0, 10, 0, 20);
        Check.same("two punches of one place keep that one", y.judged(0, 3, 100), 1);
        Check.same("by the first", y.split(0, 0, 100), 10);
    }

    private static void fullRows() {
        Doc.says(TERMS, "KEPT are those POSTS of its ROW (as places in it)");
        int[] twelve = {0, 1, 2, 3, 4, 0, 1, 2, 3, 4, 0, 1};
        for (int run = 0; run < 2; run++) {
            MapRun x = Make.race(run == 1, twelve);
            for (int i = 0; i < 12; i++) {
                Make.punch(x, 0, twelve[i], 5 * i);
            }
            Check.same("all twelve", x.judged(0, 3, 100), 0);
            Check.same("none wrong", x.judged(0, 4, 100), 0);
            Check.same("their points", x.judged(0, 5, 100), 31 + 31 + 3);
            for (int i = 0; i < 12; i++) {
                Check.same("place " + i, x.split(0, i, 100), run == 1 ? 5 * (i % 5) : 5 * i);
            }
        }
        MapRun last = Make.race(false, 0, 0, 0, 0, 0, 0, 0, 0, 0, 0, 0, 4);
        Make.punch(last, 0, 4, 7);
        Check.same("the twelfth alone", last.split(0, 11, 100), 7);
        Check.same("eleven missed", last.judged(0, 3, 100), 11);
    }

    private static void manyPunches() {
        Doc.says(TERMS, "found, in this order, in the PUNCHES");
        MapRun x = Make.race(false, 0, 1);
        Make.punch(x, 0, 0, 50, 1, 60);
        for (int i = 0; i < 120; i++) {
            Make.punch(x, 0, 2 + i % 3, i % 50);
            Check.same("the first behind " + (i + 1) + " wrong ones", x.split(0, 0, 100), 50);
            Check.same("the second", x.split(0, 1, 100), 60);
        }
        Check.same("none missed", x.judged(0, 3, 100), 0);
        Check.same("all wrong ones", x.judged(0, 4, 100), 120);
    }

    /** Of courses free and in order by turns, each a post longer than the one ahead. */
    private static void coursesByTurns() {
        Doc.says(TERMS, "JUDGED, on a COURSE IN ORDER");
        MapRun x = Make.course(true);
        for (int course = 1; course < 6; course++) {
            x.course(course % 2 == 0);
            for (int i = 0; i < course; i++) {
                x.add(course, i % 5, i % 5, 0);
            }
        }
        x.go(100);
        int[] courses = {5, 2, 3, 4, 1, 0, 2, 3};
        for (int runner = 0; runner < 8; runner++) {
            x.runner(courses[runner], 0, 0);
            x.event(0, runner, 0, 10);
            Make.punch(x, runner, 1, 20, 0, 30);
            x.event(2, runner, 0, 40 + runner);
        }
        int[] missed = {4, 0, 2, 0, 0, 0, 0, 2};
        int[] score = {1, 3, 1, 3, 1, 0, 3, 1};
        int[] total = {-100000, 3, -100000, 3, 34, 0, 3, -100000};
        int[] place = {-1, 1, -1, 1, 1, 1, 2, -1};
        for (int runner = 0; runner < 8; runner++) {
            Check.same("missed by " + runner, x.judged(runner, 3, 100), missed[runner]);
            Check.same("score of " + runner, x.judged(runner, 5, 100), score[runner]);
            Check.same("total of " + runner, x.judged(runner, 7, 100), total[runner]);
            Check.same("place of " + runner, x.judged(runner, 8, 100), place[runner]);
        }
    }

    private static void firstRowOfPlaces() {
        Doc.says(TERMS, "of several as long that which is first as a row of places.");
        MapRun x = Make.race(false, 0, 1);
        Make.punch(x, 0, 1, 10, 0, 20);
        Check.same("place 0, though punched later", x.split(0, 0, 100), 20);
        Check.same("not place 1", x.split(0, 1, 100), -1);
        MapRun y = Make.race(false, 0, 1, 0, 2);
        Make.punch(y, 0, 0, 10, 2, 20);
        int[] due = {10, -1, -1, 20};
        for (int place = 0; place < 4; place++) {
            Check.same("0 and 3, not 2 and 3: place " + place, y.split(0, place, 100), due[place]);
        }
        MapRun z = Make.race(false, 0, 1, 2, 1);
        Make.punch(z, 0, 0, 10, 2, 20, 1, 30);
        Check.same("all but one", z.judged(0, 3, 100), 1);
        Check.same("the longest comes ahead of the first", z.split(0, 1, 100), -1);
        Check.same("by its last place", z.split(0, 3, 100), 30);
    }

    private static void missed() {
        Doc.says(TERMS, "MISSED: how many aren't KEPT.");
        MapRun x = Make.race(false, 0, 1, 2);
        Check.same("all", x.judged(0, 3, 100), 3);
        int[] due = {2, 1, 0, 0};
        int[] posts = {2, 0, 1, 1};
        int[] times = {30, 10, 20, 40};
        for (int i = 0; i < 4; i++) {
            Make.punch(x, 0, posts[i], times[i]);
            Check.same("punch " + i, x.judged(0, 3, 100), due[i]);
        }
    }

    private static void split() {
        Doc.says(TERMS, "SPLIT of a KEPT place: t of its PUNCH less START");
        MapRun x = Make.race(false, 0);
        Make.punch(x, 0, 0, 40);
        Check.same("from 0", x.split(0, 0, 100), 40);
        x.event(0, 0, 0, 25);
        Check.same("from 25", x.split(0, 0, 100), 15);
        x.event(0, 0, 0, 40);
        Check.same("at once", x.split(0, 0, 100), 0);
        x.event(0, 0, 0, 99);
        Check.same("before the start", x.split(0, 0, 100), -59);
        x.event(0, 0, 0, 150);
        Check.same("a start to come", x.split(0, 0, 100), -110);
    }

    private static void splitEarliest() {
        Doc.says(TERMS, "where each in turn is the earliest that can be (behind that of the KEPT one ahead).");
        MapRun x = Make.race(false, 0, 1, 0);
        Make.punch(x, 0, 1, 5, 0, 10, 0, 15, 1, 20, 1, 25, 0, 30, 0, 35);
        Check.same("the first 0", x.split(0, 0, 100), 10);
        Check.same("the first 1 behind it", x.split(0, 1, 100), 20);
        Check.same("the first 0 behind that", x.split(0, 2, 100), 30);
        MapRun y = Make.race(false, 0, 1);
        Make.punch(y, 0, 1, 10, 0, 10, 1, 10, 1, 12);
        Check.same("behind it at the same second", y.split(0, 1, 100), 10);
        y.back(3);
        Check.same("the next one", y.split(0, 1, 100), 12);
    }

    private static void freeKept() {
        Doc.says(TERMS, "On a FREE COURSE KEPT are its POSTS that are PUNCHED at all");
        MapRun x = Make.race(true, 2, 0, 2, 1);
        Make.punch(x, 0, 1, 50, 2, 60, 2, 40);
        int[] due = {40, -1, 40, 50};
        for (int place = 0; place < 4; place++) {
            Check.same("place " + place, x.split(0, place, 100), due[place]);
        }
        Doc.says(TERMS, "MISSED is 0");
        Check.same("though one is not punched", x.judged(0, 3, 100), 0);
        Check.same("none is", Make.race(true, 0).judged(0, 3, 100), 0);
        Doc.says(TERMS, "SPLIT is of the first such PUNCH.");
        Check.same("by t", x.split(0, 0, 100), 40);
        x.back(3);
        Check.same("the other one then", x.split(0, 2, 100), 60);
    }

    private static void wrong() {
        Doc.says(TERMS, "WRONG: PUNCHES of POSTS that are not in its ROW.");
        MapRun x = Make.course(false, 0);
        x.add(0, 1, 2, 3);
        x.runner(0, 0, 1);
        x.go(50);
        Make.punch(x, 0, 0, 10, 0, 20, 2, 5);
        Check.same("none of those in its row", x.judged(0, 4, 50), 0);
        Make.punch(x, 0, 1, 10, 3, 10, 4, 10);
        Check.same("other branches and other posts", x.judged(0, 4, 50), 3);
        Make.punch(x, 0, 4, 10);
        Check.same("each punch", x.judged(0, 4, 50), 4);
        x.back(3);
        Check.same("one taken back", x.judged(0, 4, 50), 3);
        MapRun free = Make.race(true, 0);
        Make.punch(free, 0, 0, 1, 1, 2, 1, 3);
        Check.same("on a free course", free.judged(0, 4, 100), 2);
    }

    private static void wrongOfOneAlone() {
        Doc.says(TERMS, "WRONG: PUNCHES of POSTS that are not in its ROW.");
        MapRun x = Make.course(false, 0, 1);
        x.course(false);
        x.add(1, 2, 2, 2);
        x.runner(0, 0, 0);
        x.runner(1, 0, 0);
        Make.punch(x, 0, 4, 0);
        Check.same("the very first event", x.judged(0, 4, 0), 1);
        x.go(5);
        Make.punch(x, 1, 1, 0);
        Make.punch(x, 0, 3, 1, 1, 2, 3, 3, 3, 3);
        Check.same("four now", x.judged(0, 4, 5), 4);
        Check.same("one then", x.judged(0, 4, 4), 1);
        Check.same("the other's row is another", x.judged(1, 4, 5), 1);
        Check.same("none of the other's then", x.judged(1, 4, 4), 0);
    }

    private static void score() {
        Doc.says(TERMS, "SCORE: the sum of POINTS of KEPT ones (each place once).");
        MapRun x = Make.race(false, 0, 3, 3);
        Make.punch(x, 0, 3, 10, 3, 20, 3, 30, 4, 40);
        Check.same("two places of 8, not 0, not a third punch, not a wrong one", x.judged(0, 5, 100), 16);
        MapRun free = Make.race(true, 3, 0, 3);
        Make.punch(free, 0, 3, 10);
        Check.same("one punch for both places of a free course", free.judged(0, 5, 100), 16);
        Make.punch(free, 0, 3, 20, 4, 30);
        Check.same("another adds nothing", free.judged(0, 5, 100), 16);
        Check.same("none", Make.race(false, 0).judged(0, 5, 100), 0);
    }

    private static void run() {
        Doc.says(TERMS, "RUN: FINISH less START.");
        MapRun x = Make.race(false);
        x.event(0, 0, 0, 15);
        x.event(2, 0, 0, 75);
        Check.rules(x, "penalty run;");
        Check.same("60", x.judged(0, 6, 100), 60);
        Check.rules(x, "");
        Check.same("as its total", x.judged(0, 7, 100), 60);
        x.event(2, 0, 0, 15);
        Check.same("0", x.judged(0, 7, 100), 0);
        Check.rules(x, "penalty run;");
        x.event(2, 0, 0, 0);
        Check.same("a finish at 0, before the start", x.judged(0, 6, 100), -15);
        x.back(1);
        x.back(0);
        Check.same("no start", x.judged(0, 6, 100), 0);
        x.event(0, 0, 0, 15);
        x.back(2);
        x.back(3);
        x.back(4);
        Check.same("no finish", x.judged(0, 6, 100), 0);
    }

    private static void go() {
        Doc.says("Promise 16", "n seconds go by: NOW.");
        MapRun x = new MapRun();
        Check.same("0", x.go(0), 0);
        Check.same("1", x.go(1), 1);
        Check.same("1000 more", x.go(1000), 1001);
        Check.same("NOW", x.count(0), 1001);
        Doc.says("Promise 16", "IllegalArgumentException: n is below 0");
        Check.badArgument("-1", () -> x.go(-1));
        Check.badArgument("least", () -> x.go(Integer.MIN_VALUE));
        Check.same("NOW stays", x.count(0), 1001);
        Doc.says("Promise 16", "or it would be above 99999.");
        Check.badArgument("by one", () -> x.go(98999));
        Check.badArgument("most", () -> x.go(Integer.MAX_VALUE));
        Check.same("NOW stays", x.count(0), 1001);
        Check.same("just 99999", x.go(98998), 99999);
        Check.same("0 still goes", x.go(0), 99999);
    }

    private static void event() {
        Doc.says("Promise 17", "An EVENT: its number.");
        MapRun x = Make.course(false);
        x.runner(0, 0, 0);
        x.go(1);
        Check.same("first", x.event(0, 0, 0, 0), 0);
        Check.same("second", x.event(1, 0, 0, 1), 1);
        Doc.says("Promise 17", "or t is not as told.");
        int[] wrong = {2, -1, 100000, Integer.MIN_VALUE, Integer.MAX_VALUE};
        for (int t : wrong) {
            Check.same("a punch at " + t, x.event(1, 0, 0, t), -1);
            Check.same("a finish at " + t, x.event(2, 0, 0, t), -1);
        }
        Check.same("a start at 100000", x.event(0, 0, 0, 100000), -1);
        Check.same("a start at -1", x.event(0, 0, 0, -1), -1);
        Check.same("none came", x.count(5), 2);
        Doc.says("Promise 17", "post is asked of kind 1 alone.");
        int[] posts = {-1, 5, Integer.MAX_VALUE};
        for (int post : posts) {
            Check.yes("a start with post " + post, x.event(0, 0, post, 0) >= 0);
            Check.yes("a finish with post " + post, x.event(2, 0, post, 0) >= 0);
            Check.noSuch("a punch with post " + post, () -> x.event(1, 0, post, 0));
        }
        Doc.says("Promise 17", "NoSuchElementException: also no such kind.");
        int[] kinds = {3, -1, Integer.MIN_VALUE, Integer.MAX_VALUE};
        for (int kind : kinds) {
            Check.noSuch("kind " + kind, () -> x.event(kind, 0, 0, 0));
        }
        Check.same("none came", x.count(5), 8);
    }

    private static void noMoreEvents() {
        Doc.says("Promise 17", "NONE: there are 500");
        MapRun x = Make.runners(1);
        for (int i = 0; i < 500; i++) {
            x.event(2, 0, 0, 0);
        }
        Check.same("500", x.count(5), 500);
        Check.same("no more", x.event(0, 0, 0, 0), -1);
        Check.same("none came", x.count(5), 500);
        Check.same("none is known", x.judged(0, 1, 0), -1);
    }

    private static void back() {
        Doc.says("Promise 18", "An EVENT is TAKEN BACK: true.");
        MapRun x = Make.race(false, 0);
        x.event(2, 0, 0, 7);
        Check.yes("the finish", x.back(1));
        Check.same("it is gone", x.judged(0, 2, 100), -1);
        Check.same("the start is there", x.judged(0, 1, 100), 0);
        Check.yes("the start", x.back(0));
        Check.same("numbers stay", x.count(5), 2);
        Check.same("the next one", x.event(2, 0, 0, 8), 2);
        Doc.says("Promise 18", "False: it was.");
        Check.no("the start again", x.back(0));
        x.go(10);
        Check.no("the finish later", x.back(1));
        Check.yes("another one", x.back(2));
        x.go(1);
        Check.no("it counts from the first time on", x.back(2));
        Check.same("so from 110 on", x.judged(0, 2, 110), -1);
        Check.same("not ahead", x.judged(0, 2, 109), 8);
        Doc.says("Promise 18", "NoSuchElementException: no such EVENT.");
        int[] wrong = {3, -1, 500, Integer.MAX_VALUE, Integer.MIN_VALUE};
        for (int event : wrong) {
            Check.noSuch("event " + event, () -> Check.of(x.back(event)));
        }
        Check.noSuch("the first of none", () -> Check.of(new MapRun().back(0)));
    }

    private static void judged() {
        MapRun x = Make.race(false, 0, 1);
        Make.punch(x, 0, 0, 30, 3, 40, 4, 50, 4, 60);
        x.event(0, 0, 0, 20);
        x.event(2, 0, 0, 90);
        x.protest(0);
        x.decide(0, 1, 100);
        Check.rules(x, "penalty 5;");
        String[] words = {"Of a RUNNER as known at k: 0 STATE", "1 START", "2 FINISH", "3 MISSED", "4 WRONG", "5 SCORE",
            "6 PENALTY", "7 TOTAL", "8 PLACE"};
        int[] due = {4, 20, 90, 1, 3, 1, 5, 175, 1};
        for (int what = 0; what < 9; what++) {
            Doc.says("Promise 19", words[what]);
            Check.same("what " + what, x.judged(0, what, 100), due[what]);
        }
    }

    private static void judgedWithoutAnything() {
        MapRun x = Make.course(false, 0, 1);
        x.runner(0, 0, 0);
        Doc.says("Promise 19", "1 START (NONE)");
        Check.same("no start", x.judged(0, 1, 0), -1);
        Doc.says("Promise 19", "2 FINISH (NONE)");
        Check.same("no finish", x.judged(0, 2, 0), -1);
        Doc.says("Promise 19", "7 TOTAL (-100000: it doesn't COUNT)");
        Check.same("it waits", x.judged(0, 7, 0), -100000);
        x.event(0, 0, 0, 0);
        Check.same("it runs", x.judged(0, 7, 0), -100000);
        x.event(2, 0, 0, 0);
        Check.same("it missed", x.judged(0, 7, 0), -100000);
        Check.rules(x, "out 1;");
        Check.same("it is out", x.judged(0, 7, 0), -100000);
        x.protest(0);
        x.decide(0, 1, 0);
        Check.same("it counts", x.judged(0, 7, 0), 0);
        Doc.says("Promise 19", "8 PLACE (NONE)");
        Check.same("its place", x.judged(0, 8, 0), 1);
        x.back(1);
        Check.same("it runs again", x.judged(0, 8, 0), -1);
        x.back(0);
        Check.same("it waits again", x.judged(0, 8, 0), -1);
    }

    private static void judgedRefused() {
        MapRun x = Make.race(false, 0);
        Doc.says("Promise 19", "NoSuchElementException: also another what.");
        int[] wrong = {9, -1, Integer.MIN_VALUE, Integer.MAX_VALUE};
        for (int what : wrong) {
            Check.noSuch("what " + what, () -> x.judged(0, what, 100));
        }
        Doc.says("Promise 19", "IllegalArgumentException: no such second (0 to NOW).");
        int[] seconds = {101, -1, Integer.MIN_VALUE, Integer.MAX_VALUE};
        for (int k : seconds) {
            for (int what = 0; what < 9; what++) {
                int it = what;
                Check.badArgument("what " + what + " at " + k, () -> x.judged(0, it, k));
            }
        }
        Check.same("at 0", x.judged(0, 0, 0), 1);
        Check.same("NOW", x.judged(0, 0, 100), 1);
    }

    private static void splitOf() {
        Doc.says("Promise 20", "SPLIT of a place of its ROW as known at k");
        MapRun x = Make.race(false, 2, 3);
        Make.punch(x, 0, 2, 30);
        x.go(1);
        Make.punch(x, 0, 3, 40);
        x.go(1);
        Make.punch(x, 0, 2, 20);
        int[][] due = {{-1, -1}, {30, -1}, {30, 40}, {20, 40}};
        for (int i = 0; i < 4; i++) {
            for (int place = 0; place < 2; place++) {
                Check.same("place " + place + " at " + (99 + i), x.split(0, place, 99 + i), due[i][place]);
            }
        }
    }

    private static void splitNone() {
        Doc.says("Promise 20", "NONE: it isn't KEPT");
        MapRun x = Make.race(false, 0, 1);
        Make.punch(x, 0, 1, 10, 0, 20);
        Check.same("punched, but not kept", x.split(0, 1, 100), -1);
        Check.same("not punched", Make.race(false, 0).split(0, 0, 100), -1);
        Check.same("not punched, on a free course", Make.race(true, 0).split(0, 0, 100), -1);
        for (int free = 0; free < 2; free++) {
            MapRun late = Make.race(free == 1, 0, 1);
            late.event(0, 0, 0, 25);
            Make.punch(late, 0, 1, 40);
            Check.same("not punched, whatever the start", late.split(0, 0, 100), -1);
            Check.same("the other one is", late.split(0, 1, 100), 15);
        }
        Doc.says("Promise 20", "or there is no START.");
        Check.same("with a start", x.split(0, 0, 100), 20);
        x.back(0);
        Check.same("without", x.split(0, 0, 100), -1);
        MapRun free = Make.race(true, 0);
        Make.punch(free, 0, 0, 10);
        free.back(0);
        Check.same("without, on a free course", free.split(0, 0, 100), -1);
    }

    private static void splitRefused() {
        Doc.says("Promise 20", "Exceptions likewise.");
        MapRun x = Make.race(false, 0, 1);
        x.course(false);
        x.runner(1, 0, 0);
        int[] places = {2, -1, 12, 100, Integer.MAX_VALUE, Integer.MIN_VALUE};
        for (int place : places) {
            Check.noSuch("place " + place, () -> x.split(0, place, 100));
        }
        Check.noSuch("the first of no places", () -> x.split(1, 0, 100));
        Check.noSuch("runner 2", () -> x.split(2, 0, 100));
        Check.noSuch("runner -1", () -> x.split(-1, 0, 100));
        int[] seconds = {101, -1, Integer.MAX_VALUE, Integer.MIN_VALUE};
        for (int k : seconds) {
            Check.badArgument("at " + k, () -> x.split(0, 0, k));
        }
        Check.same("at 0", x.split(0, 0, 0), -1);
    }

    private static void ofTeam() {
        Doc.says("Promise 21", "Of a TEAM as known at k: 0 TIME (-100000: none)");
        MapRun x = Make.runners(6);
        x.team(0, 1, 2);
        x.team(3, 4, 5);
        x.event(0, 0, 0, 5);
        x.event(0, 3, 0, 5);
        x.go(100);
        for (int i = 0; i < 6; i++) {
            Check.same("none yet", x.ofTeam(i / 3, 0, 100), -100000);
            x.event(2, i, 0, 10 + 10 * (i % 3) + i);
        }
        Check.same("time", x.ofTeam(0, 0, 100), 27);
        Check.same("the other's", x.ofTeam(1, 0, 100), 30);
        Check.same("not known then", x.ofTeam(0, 0, 99), -100000);
        Doc.says("Promise 21", "1 PLACE (NONE)");
        Check.same("first", x.ofTeam(0, 1, 100), 1);
        Check.same("second", x.ofTeam(1, 1, 100), 2);
        Check.same("none then", x.ofTeam(0, 1, 99), -1);
    }

    private static void ofTeamRefused() {
        Doc.says("Promise 21", "NoSuchElementException: no such TEAM, what.");
        MapRun x = Make.runners(3);
        Check.noSuch("no team at all", () -> x.ofTeam(0, 0, 0));
        x.team(0, 1, 2);
        int[] wrong = {-1, 2, Integer.MAX_VALUE, Integer.MIN_VALUE};
        for (int number : wrong) {
            Check.noSuch("team " + number, () -> x.ofTeam(number, 0, 0));
            Check.noSuch("what " + number, () -> x.ofTeam(0, number, 0));
        }
        Check.noSuch("team 1", () -> x.ofTeam(1, 0, 0));
        Doc.says("Promise 21", "IllegalArgumentException likewise.");
        int[] seconds = {1, -1, Integer.MAX_VALUE, Integer.MIN_VALUE};
        for (int k : seconds) {
            Check.badArgument("time at " + k, () -> x.ofTeam(0, 0, k));
            Check.badArgument("place at " + k, () -> x.ofTeam(0, 1, k));
        }
        Check.same("at 0", x.ofTeam(0, 0, 0), -100000);
    }
}
