/** Terms 5 and promises 25 and 26, sentence by sentence. */
final class EdgesState {
    private static final String TERMS = "Terms 5";

    private EdgesState() { }

    static void all() {
        waits();
        runs();
        out();
        missed();
        counts();
        totalInOrder();
        totalFree();
        place();
        placeAmongForty();
        placeFree();
        protestsAtMost();
        protestAgainstAFinish();
        protestInTime();
        refused();
        itCounts();
        itIsOut();
        added();
        asKnown();
        decidedLast();
        comeTogether();
        teamTime();
        teamSum();
        teamPlace();
        protest();
        decide();
        decideRefused();
    }

    /** In order by post 0, from 0 to 50, told at 100, which is NOW; the post is punched or not. */
    private static MapRun finished(boolean punched) {
        MapRun x = Make.race(false, 0);
        x.event(2, 0, 0, 50);
        if (punched) {
            Make.punch(x, 0, 0, 20);
        }
        return x;
    }

    private static void waits() {
        Doc.says(TERMS, "STATE of a RUNNER as known at k: 0 WAITS (no START, or later than k)");
        MapRun x = Make.course(false);
        x.runner(0, 0, 0);
        Check.same("no start", x.judged(0, 0, 0), 0);
        x.event(2, 0, 0, 0);
        Check.same("a finish alone", x.judged(0, 0, 0), 0);
        x.event(0, 0, 0, 5);
        Check.same("later", x.judged(0, 0, 0), 0);
        x.go(5);
        Check.same("later by one", x.judged(0, 0, 4), 0);
        Check.same("at it, no more", x.judged(0, 0, 5), 1);
        x.back(1);
        Check.same("taken back", x.judged(0, 0, 5), 0);
        x.protest(0);
        x.decide(0, 2, 0);
        Check.same("even where a protest puts it out", x.judged(0, 0, 5), 0);
    }

    private static void runs() {
        Doc.says(TERMS, "1 RUNS (no FINISH, or before its START)");
        MapRun x = Make.race(false);
        x.event(0, 0, 0, 30);
        Check.same("no finish", x.judged(0, 0, 100), 1);
        x.event(2, 0, 0, 29);
        Check.same("a second before its start", x.judged(0, 0, 100), 1);
        x.protest(0);
        x.decide(0, 1, 0);
        Check.same("even where a protest lets it count", x.judged(0, 0, 100), 1);
        x.event(2, 0, 0, 30);
        Check.same("at its start, no more", x.judged(0, 0, 100), 4);
        x.back(3);
        Check.same("taken back", x.judged(0, 0, 100), 1);
    }

    private static void out() {
        Doc.says(TERMS, "2 OUT (by a PROTEST, or by RULES)");
        MapRun x = finished(true);
        Check.rules(x, "out 1;");
        Check.same("by rules", x.judged(0, 0, 100), 2);
        Check.rules(x, "");
        Check.same("no more", x.judged(0, 0, 100), 4);
        x.protest(0);
        x.decide(0, 2, 0);
        Check.same("by a protest", x.judged(0, 0, 100), 2);
        Check.rules(x, "out 1;");
        Check.same("by both", x.judged(0, 0, 100), 2);
        MapRun y = finished(false);
        Check.rules(y, "out 1;");
        Check.same("ahead of missed", y.judged(0, 0, 100), 2);
    }

    private static void missed() {
        Doc.says(TERMS, "3 MISSED (some are, and no PROTEST lets it count)");
        MapRun x = finished(false);
        Check.same("one is", x.judged(0, 0, 100), 3);
        x.protest(0);
        Check.same("not decided", x.judged(0, 0, 100), 3);
        x.decide(0, 0, 0);
        Check.same("refused", x.judged(0, 0, 100), 3);
        x.protest(0);
        x.decide(1, 1, 0);
        Check.same("it counts", x.judged(0, 0, 100), 4);
        MapRun free = Make.race(true, 0);
        free.event(2, 0, 0, 50);
        Check.same("never on a free course", free.judged(0, 0, 100), 4);
    }

    private static void counts() {
        Doc.says(TERMS, "4 COUNTS.");
        Check.same("none missed", finished(true).judged(0, 0, 100), 4);
        MapRun empty = Make.race(false);
        empty.event(2, 0, 0, 0);
        Check.same("an empty row", empty.judged(0, 0, 100), 4);
        for (int t = 0; t <= 100; t++) {
            empty.event(2, 0, 0, t);
            Check.same("a finish at " + t, empty.judged(0, 0, 100), 4);
            Check.same("its total", empty.judged(0, 7, 100), t);
        }
    }

    private static void totalInOrder() {
        Doc.says(TERMS, "TOTAL of one that COUNTS: IN ORDER its RUN, and PENALTY, and what PROTESTS add");
        MapRun x = finished(true);
        x.event(0, 0, 0, 10);
        Check.same("its run", x.judged(0, 7, 100), 40);
        Check.rules(x, "penalty 7; penalty 0 - 2;");
        Check.same("and penalty", x.judged(0, 7, 100), 45);
        x.protest(0);
        x.decide(0, 1, 300);
        Check.same("and what protests add", x.judged(0, 7, 100), 345);
        Check.rules(x, "penalty 0 - 500;");
        Check.same("below 0 too", x.judged(0, 7, 100), -160);
    }

    private static void totalFree() {
        Doc.says(TERMS, "FREE: its SCORE, less PENALTY, less what PROTESTS add.");
        MapRun x = Make.race(true, 4, 3);
        x.event(2, 0, 0, 77);
        Make.punch(x, 0, 4, 1, 3, 2);
        Check.same("its score", x.judged(0, 7, 100), 24);
        Check.rules(x, "penalty 7;");
        Check.same("less penalty", x.judged(0, 7, 100), 17);
        x.protest(0);
        x.decide(0, 1, -3);
        Check.same("less what protests add", x.judged(0, 7, 100), 20);
        Check.rules(x, "penalty 50;");
        Check.same("below 0 too", x.judged(0, 7, 100), -23);
    }

    /** Runners of clubs 0, 1 and so on that ran so long, all from 0 to 0 and on; NOW is 100. */
    private static MapRun ran(boolean free, int... seconds) {
        MapRun x = Make.course(free, 0, 1);
        for (int i = 0; i < seconds.length; i++) {
            x.runner(0, i, 0);
            x.event(0, i, 0, 0);
        }
        x.go(100);
        for (int i = 0; i < seconds.length; i++) {
            Make.punch(x, i, 0, 1, 1, 2);
            x.event(2, i, 0, seconds[i]);
        }
        return x;
    }

    private static void places(MapRun x, int... due) {
        for (int i = 0; i < due.length; i++) {
            Check.same("place of " + i, x.judged(i, 8, 100), due[i]);
        }
    }

    private static void place() {
        Doc.says(TERMS, "PLACE among those of its COURSE that COUNT: 1 and how many have a better TOTAL (IN ORDER less;");
        MapRun x = ran(false, 50, 40, 50, 60, 10);
        x.course(false);
        x.runner(1, 0, 0);
        x.event(0, 5, 0, 0);
        x.event(2, 5, 0, 1);
        places(x, 3, 2, 3, 5, 1, 1);
        Check.rules(x, "out club = 4;");
        places(x, 2, 1, 2, 4, -1, 1);
        Check.rules(x, "penalty (club = 1) * 10;");
        places(x, 2, 2, 2, 5, 1, 1);
        x.back(4);
        places(x, 1, 1, 1, 4, -1, 1);
        MapRun two = ran(false, 50, 40);
        two.course(false);
        for (int i = 2; i < 4; i++) {
            two.runner(1, 0, 0);
            two.event(0, i, 0, 0);
            two.event(2, i, 0, 75 - 10 * i);
        }
        places(two, 2, 1, 2, 1);
        MapRun slowed = ran(false, 50, 40, 45);
        Check.rules(slowed, "penalty (club = 1) * 20 + (club = 2) * 10;");
        places(slowed, 1, 3, 2);
        placesAtOnce();
    }

    /** Places where seconds and totals are as small as the runners' numbers. */
    private static void placesAtOnce() {
        for (int k = 0; k < 4; k++) {
            MapRun x = Make.runners(4);
            x.go(k);
            for (int i = 0; i < 4; i++) {
                x.event(0, i, 0, 0);
                x.event(2, i, 0, 0);
            }
            Check.rules(x, "penalty 3 - club;");
            for (int i = 0; i < 4; i++) {
                Check.same("place of " + i + " at " + k, x.judged(i, 8, k), 4 - i);
                Check.same("total of " + i + " at " + k, x.judged(i, 7, k), 3 - i);
            }
            Check.rules(x, "penalty club;");
            for (int i = 0; i < 4; i++) {
                Check.same("turned round, place of " + i + " at " + k, x.judged(i, 8, k), 1 + i);
            }
        }
    }

    private static void placeAmongForty() {
        Doc.says(TERMS, "1 and how many have a better TOTAL");
        MapRun x = Make.runners(40);
        x.go(100);
        for (int i = 0; i < 40; i++) {
            x.event(0, i, 0, i);
            x.event(2, i, 0, 50);
        }
        for (int i = 0; i < 40; i++) {
            Check.same("place of " + i, x.judged(i, 8, 100), 40 - i);
        }
    }

    private static void placeFree() {
        Doc.says(TERMS, "FREE more, of like ones a lesser RUN).");
        MapRun x = ran(true, 50, 40, 50, 60, 10);
        places(x, 3, 2, 3, 5, 1);
        Check.rules(x, "penalty (club = 4) + (club = 3) * (0 - 1);");
        places(x, 3, 2, 3, 1, 5);
        Check.rules(x, "out club = 1; penalty run;");
        places(x, 2, -1, 2, 4, 1);
    }

    private static void protestsAtMost() {
        Doc.says(TERMS, "PROTESTS, from 0 on, at most 40");
        MapRun x = finished(true);
        for (int i = 0; i < 40; i++) {
            Check.same("the next number", x.protest(0), i);
        }
        Check.same("the 41st", x.protest(0), -1);
        Check.yes("the last one can be decided", x.decide(39, 0, 0));
        Check.same("a decided one leaves no room", x.protest(0), -1);
    }

    private static void protestAgainstAFinish() {
        Doc.says(TERMS, "against a RUNNER that has a FINISH told (as known NOW)");
        MapRun x = Make.race(false, 0);
        Check.same("no finish", x.protest(0), -1);
        x.event(2, 0, 0, 50);
        Check.same("a finish", x.protest(0), 0);
        x.back(1);
        Check.same("taken back", x.protest(0), -1);
        x.runner(0, 0, 0);
        x.event(2, 0, 0, 50);
        Check.same("another's", x.protest(1), -1);
        x.event(2, 1, 0, 50);
        Check.same("without a start", x.protest(1), 1);
    }

    private static void protestInTime() {
        Doc.says(TERMS, "NOW no more than 'window' seconds behind that when it was told.");
        MapRun x = finished(true);
        x.go(900);
        Check.same("900 behind when it was told, 950 behind it", x.protest(0), 0);
        x.go(1);
        Check.same("901", x.protest(0), -1);
        x.event(2, 0, 0, 0);
        Check.same("told anew", x.protest(0), 1);
        Check.rules(x, "set window 0;");
        Check.same("none behind", x.protest(0), 2);
        x.go(1);
        Check.same("one behind", x.protest(0), -1);
        Check.rules(x, "set window 1;");
        Check.same("a window of one", x.protest(0), 3);
        x.go(90000);
        Check.rules(x, "set window 99999;");
        Check.same("a wide window", x.protest(0), 4);
    }

    private static void refused() {
        Doc.says(TERMS, "DECIDED once: 0 refused");
        MapRun x = finished(false);
        x.protest(0);
        Check.yes("refused", x.decide(0, 0, 9));
        Check.same("missed still", x.judged(0, 0, 100), 3);
        Check.no("once", x.decide(0, 1, 0));
        Check.no("once, even the same", x.decide(0, 0, 9));
        Check.same("missed still", x.judged(0, 0, 100), 3);
    }

    private static void itCounts() {
        Doc.says(TERMS, "1 it counts (MISSED or not, by RULES OUT or not)");
        MapRun x = finished(false);
        x.protest(0);
        x.decide(0, 1, 0);
        Check.same("missed", x.judged(0, 0, 100), 4);
        Check.same("that stays so", x.judged(0, 3, 100), 1);
        Check.rules(x, "out 1;");
        Check.same("missed, and by rules out", x.judged(0, 0, 100), 4);
        MapRun y = finished(true);
        y.protest(0);
        y.decide(0, 1, 0);
        Check.same("neither", y.judged(0, 0, 100), 4);
        Check.rules(y, "out 1;");
        Check.same("by rules out", y.judged(0, 0, 100), 4);
    }

    private static void itIsOut() {
        Doc.says(TERMS, "2 OUT; with seconds (points) that are added");
        MapRun x = finished(true);
        x.protest(0);
        Check.yes("out, with seconds", x.decide(0, 2, 30));
        Check.same("out", x.judged(0, 0, 100), 2);
        Check.same("no total", x.judged(0, 7, 100), -100000);
        x.protest(0);
        x.decide(1, 1, 4);
        Check.same("its seconds are added when it counts again", x.judged(0, 7, 100), 50 + 30 + 4);
    }

    private static void added() {
        Doc.says(TERMS, "(-999 to 999; of 0 they count for nothing).");
        MapRun x = finished(true);
        for (int i = 0; i < 4; i++) {
            x.protest(0);
        }
        Check.yes("999", x.decide(0, 1, 999));
        Check.same("999 more", x.judged(0, 7, 100), 50 + 999);
        Check.yes("-999", x.decide(1, 1, -999));
        Check.same("999 less", x.judged(0, 7, 100), 50);
        Check.no("1000", x.decide(2, 1, 1000));
        Check.no("-1000", x.decide(2, 1, -1000));
        Check.no("1000 of a refused one", x.decide(2, 0, 1000));
        Check.no("-1000 of one out", x.decide(2, 2, -1000));
        Check.yes("999 of a refused one", x.decide(2, 0, 999));
        Check.same("counts for nothing", x.judged(0, 7, 100), 50);
    }

    private static void asKnown() {
        Doc.says(TERMS, "AS KNOWN at k: those DECIDED at k or ahead");
        MapRun x = finished(true);
        x.protest(0);
        x.protest(0);
        x.go(10);
        x.decide(0, 1, 6);
        Check.same("at k", x.judged(0, 7, 110), 56);
        Check.same("a second ahead", x.judged(0, 7, 109), 50);
        x.go(5);
        x.decide(1, 2, 0);
        Check.same("out now", x.judged(0, 0, 115), 2);
        Check.same("not a second ahead", x.judged(0, 0, 114), 4);
        x.go(1);
        Check.same("and from then on", x.judged(0, 0, 116), 2);
    }

    private static void decidedLast() {
        Doc.says(TERMS, "of 1 and 2 that one counts which was DECIDED last");
        MapRun x = finished(false);
        for (int i = 0; i < 5; i++) {
            x.protest(0);
        }
        x.decide(3, 1, 0);
        x.decide(1, 2, 0);
        Check.same("by when, not by number", x.judged(0, 0, 100), 2);
        x.decide(4, 0, 0);
        Check.same("a refused one changes nothing", x.judged(0, 0, 100), 2);
        x.go(1);
        x.decide(0, 1, 0);
        Check.same("the last", x.judged(0, 0, 101), 4);
        Check.same("as known then", x.judged(0, 0, 100), 2);
        x.go(1);
        x.decide(2, 2, 0);
        Check.same("out at last", x.judged(0, 0, 102), 2);
        int[][] orders = {{0, 1, 2}, {0, 2, 1}, {1, 0, 2}, {1, 2, 0}, {2, 0, 1}, {2, 1, 0}};
        for (int[] order : orders) {
            for (int counting = 0; counting < 3; counting++) {
                MapRun y = finished(false);
                y.runner(0, 0, 0);
                y.event(2, 1, 0, 0);
                y.protest(1);
                y.decide(0, 2, 0);
                for (int i = 0; i < 3; i++) {
                    y.protest(0);
                }
                for (int protest : order) {
                    y.decide(1 + protest, protest == counting ? 1 : 2, 0);
                }
                Check.same("the last of three, " + order[2], y.judged(0, 0, 100), order[2] == counting ? 4 : 2);
            }
        }
    }

    private static void comeTogether() {
        Doc.says(TERMS, "all added ones come together.");
        MapRun x = finished(true);
        x.runner(0, 0, 0);
        x.event(2, 1, 0, 0);
        for (int i = 0; i < 4; i++) {
            x.protest(0);
        }
        x.protest(1);
        x.decide(0, 1, 1);
        x.decide(1, 2, 20);
        x.decide(2, 0, 400);
        x.decide(4, 1, 700);
        x.go(1);
        x.decide(3, 1, 8);
        Check.same("of 1 and 2, of this runner", x.judged(0, 7, 101), 50 + 29);
        Check.same("it was out then", x.judged(0, 7, 100), -100000);
        Check.same("none is penalty", x.judged(0, 6, 101), 0);
    }

    /** Two teams of course 0 and one of course 1; each runs three legs of so many seconds from 10 on. */
    private static MapRun relay(int... legs) {
        MapRun x = Make.runners(6);
        x.course(false);
        for (int i = 0; i < 3; i++) {
            x.runner(1, i, 0);
        }
        for (int team = 0; team < 3; team++) {
            x.team(3 * team, 3 * team + 1, 3 * team + 2);
            x.event(0, 3 * team, 0, 10);
        }
        x.go(100);
        for (int team = 0; team < 3; team++) {
            for (int leg = 0; leg < 3; leg++) {
                x.event(2, 3 * team + leg, 0, 10 + legs[team] * (leg + 1));
            }
        }
        return x;
    }

    private static void teamTime() {
        Doc.says(TERMS, "TEAM: its TIME, if all three COUNT");
        for (int leg = 0; leg < 3; leg++) {
            MapRun x = relay(10, 20, 5);
            Check.same("all count", x.ofTeam(0, 0, 100), 30);
            x.protest(leg);
            x.decide(0, 2, 0);
            Check.same("leg " + leg + " is out", x.ofTeam(0, 0, 100), -100000);
            Check.same("the other team counts", x.ofTeam(1, 0, 100), 60);
        }
        MapRun y = relay(10, 20, 5);
        y.event(0, 0, 0, 21);
        Check.same("the first finished before its start", y.ofTeam(0, 0, 100), -100000);
    }

    private static void teamSum() {
        Doc.says(TERMS, "the last one's FINISH less the first one's START, all three PENALTIES and what PROTESTS add");
        MapRun x = relay(10, 20, 5);
        x.event(0, 0, 0, 4);
        Check.same("the first one's start", x.ofTeam(0, 0, 100), 36);
        x.event(2, 2, 0, 60);
        Check.same("the last one's finish", x.ofTeam(0, 0, 100), 56);
        x.event(2, 1, 0, 35);
        Check.same("not those between", x.ofTeam(0, 0, 100), 56);
        Check.rules(x, "penalty (club = 0) + (club = 1) * 20 + (club = 2) * 300;");
        Check.same("all three penalties", x.ofTeam(0, 0, 100), 56 + 321);
        for (int leg = 0; leg < 3; leg++) {
            x.protest(leg);
        }
        x.decide(0, 1, 1);
        x.decide(1, 1, 30);
        x.decide(2, 1, -500);
        Check.same("what protests add", x.ofTeam(0, 0, 100), 56 + 321 - 469);
    }

    private static void teamPlace() {
        Doc.says(TERMS, "its PLACE among TEAMS of that COURSE that have a TIME likewise.");
        MapRun x = relay(10, 20, 5);
        Check.same("less is better", x.ofTeam(0, 1, 100), 1);
        Check.same("more is worse", x.ofTeam(1, 1, 100), 2);
        Check.same("of another course", x.ofTeam(2, 1, 100), 1);
        MapRun turned = relay(20, 10, 25);
        Check.same("a better one behind it", turned.ofTeam(0, 1, 100), 2);
        Check.same("the better one", turned.ofTeam(1, 1, 100), 1);
        Check.same("the course ahead has better ones", turned.ofTeam(2, 1, 100), 1);
        for (int k = 0; k < 3; k++) {
            MapRun small = Make.runners(6);
            small.go(k);
            small.team(0, 1, 2);
            small.team(3, 4, 5);
            for (int i = 0; i < 6; i++) {
                small.event(0, i, 0, 0);
                small.event(2, i, 0, 0);
            }
            Check.rules(small, "penalty club = 3;");
            Check.same("0 seconds at " + k, small.ofTeam(0, 1, k), 1);
            Check.same("1 second at " + k, small.ofTeam(1, 1, k), 2);
            Check.rules(small, "penalty club = 2;");
            Check.same("1 second now, at " + k, small.ofTeam(0, 1, k), 2);
            Check.same("0 seconds now, at " + k, small.ofTeam(1, 1, k), 1);
        }
        MapRun like = relay(10, 10, 10);
        Check.same("of like ones the same, 0", like.ofTeam(0, 1, 100), 1);
        Check.same("of like ones the same, 1", like.ofTeam(1, 1, 100), 1);
        x.protest(1);
        x.decide(0, 2, 0);
        Check.same("one without a time has none", x.ofTeam(0, 1, 100), -1);
        Check.same("nor does it count for others", x.ofTeam(1, 1, 100), 1);
    }

    private static void protest() {
        Doc.says("Promise 25", "A PROTEST: its number.");
        MapRun x = finished(true);
        Check.same("first", x.protest(0), 0);
        Check.same("second", x.protest(0), 1);
        Check.same("two", x.count(6), 2);
        Doc.says("Promise 25", "or it is too late");
        x.go(901);
        Check.same("by one", x.protest(0), -1);
        Check.same("none came", x.count(6), 2);
        Doc.says("Promise 25", "or there is no FINISH.");
        x.runner(0, 0, 0);
        Check.same("of a new runner", x.protest(1), -1);
        Check.same("none came", x.count(6), 2);
        Doc.says("Promise 25", "NONE: there are 40");
        x.event(2, 0, 0, 0);
        for (int i = 2; i < 40; i++) {
            Check.same("protest", x.protest(0), i);
        }
        Check.same("no more", x.protest(0), -1);
        Check.same("no more came", x.count(6), 40);
    }

    private static void decide() {
        Doc.says("Promise 26", "A PROTEST is DECIDED: true.");
        MapRun x = finished(true);
        for (int how = 0; how < 3; how++) {
            x.protest(0);
            Check.yes("how " + how, x.decide(how, how, 0));
        }
        x.protest(0);
        x.go(99000);
        Check.yes("long after the window", x.decide(3, 1, 0));
        Doc.says("Promise 26", "False: it was");
        for (int i = 0; i < 4; i++) {
            Check.no("protest " + i, x.decide(i, 2, 0));
        }
        Check.same("nothing changed", x.judged(0, 0, 99100), 4);
    }

    private static void decideRefused() {
        Doc.says("Promise 26", "or a number is not as told.");
        MapRun x = finished(true);
        x.protest(0);
        int[] hows = {-1, 3, Integer.MIN_VALUE, Integer.MAX_VALUE};
        int[] adds = {-1000, 1000, Integer.MIN_VALUE, Integer.MAX_VALUE};
        for (int i = 0; i < 4; i++) {
            Check.no("how " + hows[i], x.decide(0, hows[i], 0));
            for (int how = 0; how < 3; how++) {
                Check.no("how " + how + ", " + adds[i], x.decide(0, how, adds[i]));
            }
        }
        Check.yes("it is not decided by that", x.decide(0, 1, 5));
        Check.same("its seconds", x.judged(0, 7, 100), 55);
        Doc.says("Promise 26", "NoSuchElementException: no such PROTEST.");
        int[] wrong = {1, -1, 40, Integer.MIN_VALUE, Integer.MAX_VALUE};
        for (int protest : wrong) {
            Check.noSuch("protest " + protest, () -> Check.of(x.decide(protest, 1, 0)));
        }
        Check.noSuch("nor a number as told", () -> Check.of(x.decide(1, 3, 1000)));
        Check.noSuch("the first of none", () -> Check.of(new MapRun().decide(0, 0, 0)));
    }
}
