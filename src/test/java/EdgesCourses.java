/** Terms 2 and promises 10 to 15, sentence by sentence. */
final class EdgesCourses {
    private static final String TERMS = "Terms 2";

    private EdgesCourses() { }

    static void all() {
        postsAtMost();
        postsStandWhereOneCanEnter();
        points();
        gatesAtFirst();
        coursesAtMost();
        inOrderOrFree();
        elementsAtMost();
        allCoursesFull();
        forks();
        runnersAtMost();
        clubs();
        variants();
        digitsBeyondTheForks();
        courseWithARunner();
        rowOfARunner();
        length();
        noLength();
        teamsAtMost();
        teamOfThree();
        teamOfOneCourse();
        teamOfNobodyTwice();
        teamOnAllBranches();
        post();
        course();
        add();
        addRefused();
        addOfNothing();
        runner();
        row();
        rowOfNothing();
        team();
    }

    private static void postsAtMost() {
        Doc.says(TERMS, "POSTS, from 0 on, at most 20");
        MapRun x = new MapRun();
        for (int i = 0; i < 20; i++) {
            Check.same("the next number", x.post(0, 0, 0), i);
        }
        Check.same("the 21st", x.post(0, 0, 0), -1);
        Check.same("how many", x.count(1), 20);
    }

    private static void postsStandWhereOneCanEnter() {
        Doc.says(TERMS, "a CELL that can be entered");
        MapRun x = Make.land(2, 1);
        x.takes(1, 0);
        x.cell(1, 0, 1, 0);
        Check.same("on barred ground", x.post(1, 0, 0), -1);
        x.takes(1, 1);
        Check.same("no more barred", x.post(1, 0, 0), 0);
        MapRun shutIn = Make.land(2, 1);
        shutIn.wall(0, 0, 1, true);
        Check.same("walls round it bar no ground", shutIn.post(1, 0, 0), 0);
    }

    private static void points() {
        Doc.says(TERMS, "POINTS (0 to 99)");
        MapRun x = new MapRun();
        x.course(true);
        Check.same("0", x.post(0, 0, 0), 0);
        x.add(0, 0, 0, 0);
        Check.same("of 0", x.best(0, 0), 0);
        Check.same("99", x.post(0, 0, 99), 1);
        x.add(0, 1, 1, 1);
        Check.same("of both", x.best(0, 0), 99);
        Check.same("100", x.post(0, 0, 100), -1);
        Check.same("-1", x.post(0, 0, -1), -1);
    }

    private static void gatesAtFirst() {
        Doc.says(TERMS, "THE START and THE FINISH are CELLS (both x 0, y 0 at first).");
        MapRun x = Make.land(3, 3);
        x.post(1, 2, 0);
        x.course(false);
        x.add(0, 0, 0, 0);
        x.runner(0, 0, 0);
        Check.same("there and back", x.row(0, 100), 30);
        Check.same("from there", Check.track(x, 0, "u"), -3);
        Check.same("by the post", Check.track(x, 0, "rdduul"), 30);
        Check.same("back to it", x.lost(0), 0);
        MapRun y = Make.land(3, 3);
        Check.yes("others", y.gates(2, 2, 0, 1));
        y.course(false);
        y.runner(0, 0, 0);
        Check.same("from one to the other", y.row(0, 100), 15);
    }

    private static void coursesAtMost() {
        Doc.says(TERMS, "COURSES, from 0 on, at most 8");
        MapRun x = new MapRun();
        for (int i = 0; i < 8; i++) {
            Check.same("the next number", x.course(i % 3 == 0), i);
        }
        Check.same("the 9th", x.course(false), -1);
        Check.same("the 9th, free", x.course(true), -1);
        Check.same("how many", x.count(2), 8);
        Check.same("the last one can be run", x.runner(7, 0, 0), 0);
        Check.noSuch("there is no 9th", () -> x.runner(8, 0, 0));
    }

    private static void inOrderOrFree() {
        Doc.says(TERMS, "IN ORDER or FREE");
        MapRun order = Make.race(false, 0, 1);
        Make.punch(order, 0, 1, 10, 0, 20);
        Check.same("in order one of two is missed", order.judged(0, 3, 100), 1);
        Check.same("no best", order.best(0, 100), -1);
        MapRun free = Make.race(true, 0, 1);
        Make.punch(free, 0, 1, 10, 0, 20);
        Check.same("free none", free.judged(0, 3, 100), 0);
        Check.same("its best", free.best(0, 100), 3);
    }

    private static void elementsAtMost() {
        Doc.says(TERMS, "each of up to 12 ELEMENTS");
        MapRun x = Make.course(false);
        x.course(true);
        for (int i = 1; i <= 12; i++) {
            Check.same("in order", x.add(0, 0, 0, 0), i);
            Check.same("free", x.add(1, 1, 1, 1), i);
        }
        Check.same("the 13th in order", x.add(0, 0, 0, 0), -1);
        Check.same("the 13th free", x.add(1, 1, 1, 1), -1);
        x.runner(0, 0, 0);
        Check.same("a row of twelve", x.row(0, -1), 12);
        Check.same("its last place", x.row(0, 11), 0);
    }

    private static void allCoursesFull() {
        Doc.says(TERMS, "COURSES, from 0 on, at most 8: IN ORDER or FREE, each of up to 12 ELEMENTS");
        MapRun x = Make.course(false);
        for (int i = 1; i < 8; i++) {
            x.course(false);
        }
        for (int course = 0; course < 8; course++) {
            for (int i = 1; i <= 12; i++) {
                int post = (course + i) % 5;
                Check.same("element of " + course, x.add(course, post, post, 0), i);
            }
            x.runner(course, 0, 0);
        }
        for (int course = 0; course < 8; course++) {
            for (int place = 0; place < 12; place++) {
                Check.same("place " + place + " of " + course, x.row(course, place), (course + place + 1) % 5);
            }
        }
    }

    private static void forks() {
        Doc.says(TERMS, "a POST, or (IN ORDER alone, at most 4 of them) a FORK of three POSTS, its BRANCHES 0 to 2.");
        MapRun x = Make.course(false);
        x.course(true);
        Check.same("none on a free course", x.add(1, 0, 1, 2), -1);
        Check.same("a post there", x.add(1, 0, 0, 0), 1);
        for (int i = 1; i <= 4; i++) {
            Check.same("fork in order", x.add(0, 4, 3, 2), i);
        }
        Check.same("the 5th", x.add(0, 4, 3, 2), -1);
        Check.same("a post still", x.add(0, 1, 1, 1), 5);
        int[] branches = {4, 3, 2};
        for (int i = 0; i < 3; i++) {
            x.runner(0, 0, i);
            Check.same("branch " + i, x.row(i, 0), branches[i]);
        }
    }

    private static void runnersAtMost() {
        Doc.says(TERMS, "RUNNERS, from 0 on, at most 40");
        MapRun x = Make.course(false);
        x.course(true);
        for (int i = 0; i < 40; i++) {
            Check.same("the next number", x.runner(i % 2, 0, 0), i);
        }
        Check.same("the 41st", x.runner(0, 0, 0), -1);
        Check.same("how many", x.count(3), 40);
        Check.same("the last one", x.judged(39, 0, 0), 0);
        Check.noSuch("there is no 41st", () -> x.judged(40, 0, 0));
    }

    private static void clubs() {
        Doc.says(TERMS, "a COURSE, a CLUB (0 to 9), a VARIANT");
        MapRun x = Make.course(false, 3);
        x.course(true);
        Check.same("club 0", x.runner(0, 0, 0), 0);
        Check.same("club 9", x.runner(1, 9, 0), 1);
        Check.same("club 10", x.runner(0, 10, 0), -1);
        Check.same("club -1", x.runner(0, -1, 0), -1);
        Check.same("its course", x.row(0, -1), 1);
        Check.same("the other's", x.row(1, -1), 0);
        Check.rules(x, "penalty 1 + club;");
        Check.same("club 0 as told", x.judged(0, 6, 0), 1);
        Check.same("club 9 as told", x.judged(1, 6, 0), 10);
    }

    /** Four forks of posts 0, 1, 2 with other posts between them. */
    private static MapRun fourForks() {
        MapRun x = Make.course(false);
        for (int i = 0; i < 4; i++) {
            x.add(0, 3, 3, 3);
            x.add(0, 0, 1, 2);
        }
        return x;
    }

    private static void variants() {
        Doc.says(TERMS, "of FORK i (from 0 on) of the COURSE the BRANCH is digit i to the base 3, the lowest first");
        MapRun x = fourForks();
        int[] variants = {0, 1, 3, 9, 27, 2 + 3 * 1 + 9 * 0 + 27 * 2, 80};
        int[][] due = {{0, 0, 0, 0}, {1, 0, 0, 0}, {0, 1, 0, 0}, {0, 0, 1, 0}, {0, 0, 0, 1}, {2, 1, 0, 2},
            {2, 2, 2, 2}};
        for (int i = 0; i < variants.length; i++) {
            Check.same("variant " + variants[i], x.runner(0, 0, variants[i]), i);
            for (int fork = 0; fork < 4; fork++) {
                Check.same("fork " + fork + " of " + variants[i], x.row(i, 2 * fork + 1), due[i][fork]);
                Check.same("the post ahead of it", x.row(i, 2 * fork), 3);
            }
        }
    }

    private static void digitsBeyondTheForks() {
        Doc.says(TERMS, "(0 to 80; more digits than FORKS count for nothing).");
        MapRun x = Make.course(false, 4);
        x.add(0, 0, 1, 2);
        x.course(true);
        x.add(1, 4, 4, 4);
        Check.same("80", x.runner(0, 0, 80), 0);
        Check.same("its one fork", x.row(0, 1), 2);
        Check.same("7, that is 1 and more", x.runner(0, 0, 7), 1);
        Check.same("its one fork", x.row(1, 1), 1);
        Check.same("no fork at all", x.runner(1, 0, 80), 2);
        Check.same("its post", x.row(2, 0), 4);
        Check.same("81", x.runner(0, 0, 81), -1);
        Check.same("-1", x.runner(0, 0, -1), -1);
    }

    private static void courseWithARunner() {
        Doc.says(TERMS, "A COURSE that has a RUNNER stays as it is.");
        MapRun x = Make.course(false, 0);
        x.course(false);
        x.runner(0, 0, 0);
        Check.same("a post", x.add(0, 1, 1, 1), -1);
        Check.same("a fork", x.add(0, 1, 2, 3), -1);
        Check.same("its row", x.row(0, -1), 1);
        Check.same("one without a runner grows", x.add(1, 1, 1, 1), 1);
    }

    private static void rowOfARunner() {
        Doc.says(TERMS, "A RUNNER's ROW: the POSTS of its ELEMENTS, of FORKS those of its BRANCHES.");
        MapRun x = Make.course(false, 4, 4);
        x.add(0, 1, 0, 1);
        x.runner(0, 0, 1);
        int[] due = {4, 4, 0};
        Check.same("how many", x.row(0, -1), 3);
        for (int i = 0; i < 3; i++) {
            Check.same("place " + i, x.row(0, i), due[i]);
        }
    }

    private static void length() {
        Doc.says(TERMS, "LENGTH of a ROW: SECONDS of LEAST WAYS from THE START to its first POST, from each to the next "
                + "one, from the last one to THE FINISH");
        MapRun x = Make.line(7);
        x.cell(6, 0, 0, 10);
        x.gates(2, 0, 6, 0);
        x.course(false);
        x.course(false);
        int[] row = {4, 1, 1, 5};
        for (int p : row) {
            x.add(0, p, p, p);
        }
        x.runner(0, 0, 0);
        x.runner(1, 0, 0);
        Check.same("2 to 4, to 1, to 1, to 5, up to 6", x.row(0, 100), 10 + 15 + 0 + 20 + 5 + 20);
        Check.same("of an empty row from start to finish", x.row(1, 100), 20 + 20);
    }

    private static void noLength() {
        Doc.says(TERMS, "(NONE, if there is none for some).");
        int[] wallBehind = {0, 2, 3};
        String[] legs = {"to the first post", "from post to post", "to the finish"};
        for (int i = 0; i < 3; i++) {
            MapRun x = Make.line(5);
            x.wall(wallBehind[i], 0, 1, true);
            x.course(false);
            x.add(0, 1, 1, 1);
            x.add(0, 3, 3, 3);
            x.runner(0, 0, 0);
            Check.same("none " + legs[i], x.row(0, 100), -1);
        }
        MapRun open = Make.line(5);
        open.wall(4, 0, 1, true);
        open.course(false);
        open.add(0, 3, 3, 3);
        open.runner(0, 0, 0);
        Check.same("for all", open.row(0, 100), 20);
        MapRun empty = Make.line(2);
        empty.wall(0, 0, 1, true);
        empty.course(false);
        empty.runner(0, 0, 0);
        Check.same("none for an empty row", empty.row(0, 100), -1);
    }

    private static void teamsAtMost() {
        Doc.says(TERMS, "TEAMS, from 0 on, at most 10");
        MapRun x = Make.runners(33);
        for (int i = 0; i < 10; i++) {
            Check.same("the next number", x.team(3 * i, 3 * i + 1, 3 * i + 2), i);
        }
        Check.same("the 11th", x.team(30, 31, 32), -1);
        Check.same("how many", x.count(4), 10);
        Check.same("the last one", x.ofTeam(9, 0, 0), -100000);
    }

    private static void teamOfThree() {
        Doc.says(TERMS, "three RUNNERS");
        MapRun x = Make.runners(3);
        Check.same("first twice", x.team(0, 0, 1), -1);
        Check.same("last twice", x.team(0, 1, 1), -1);
        Check.same("first and last the same", x.team(0, 1, 0), -1);
        Check.same("one alone", x.team(2, 2, 2), -1);
        Check.same("three", x.team(2, 0, 1), 0);
    }

    private static void teamOfOneCourse() {
        Doc.says(TERMS, "of one COURSE IN ORDER");
        MapRun x = Make.runners(3);
        x.course(false);
        x.course(true);
        x.runner(1, 0, 0);
        for (int i = 0; i < 3; i++) {
            x.runner(2, 0, 0);
        }
        Check.same("the first of another", x.team(3, 0, 1), -1);
        Check.same("the second of another", x.team(0, 3, 1), -1);
        Check.same("the third of another", x.team(0, 1, 3), -1);
        Check.same("all of a free one", x.team(4, 5, 6), -1);
        Check.same("all of one in order", x.team(0, 1, 2), 0);
        MapRun mixed = new MapRun();
        mixed.course(false);
        mixed.course(false);
        for (int i = 0; i < 6; i++) {
            mixed.runner(i % 2, 0, 0);
        }
        for (int mix = 1; mix < 7; mix++) {
            int a = mix & 1;
            int b = 2 + (mix >> 1 & 1);
            int c = 4 + (mix >> 2);
            Check.same("of two courses: " + a + " " + b + " " + c, mixed.team(a, b, c), -1);
        }
        Check.same("of the second", mixed.team(1, 3, 5), 0);
        Check.same("of the first", mixed.team(0, 2, 4), 1);
    }

    private static void teamOfNobodyTwice() {
        Doc.says(TERMS, "none in a TEAM yet");
        MapRun x = Make.runners(7);
        x.team(1, 2, 3);
        for (int taken = 1; taken <= 3; taken++) {
            Check.same("as first, " + taken, x.team(taken, 4, 5), -1);
            Check.same("as second, " + taken, x.team(4, taken, 5), -1);
            Check.same("as third, " + taken, x.team(4, 5, taken), -1);
        }
        Check.same("others", x.team(6, 0, 4), 1);
    }

    private static void teamOnAllBranches() {
        Doc.says(TERMS, "each FORK of which is run by them on all three BRANCHES.");
        MapRun x = fourForks();
        int[] units = {1, 3, 9, 27};
        x.runner(0, 0, 0);
        x.runner(0, 0, 40);
        x.runner(0, 0, 80);
        for (int unit : units) {
            x.runner(0, 0, 80 - unit);
            x.runner(0, 0, 80 - 2 * unit);
        }
        for (int i = 3; i < 11; i++) {
            Check.same("one fork twice on a branch, " + i, x.team(0, 1, i), -1);
            Check.same("in another order, " + i, x.team(i, 0, 1), -1);
        }
        Check.same("all", x.team(1, 2, 0), 0);
        int[][] orders = {{0, 1, 2}, {0, 2, 1}, {1, 0, 2}, {1, 2, 0}, {2, 0, 1}, {2, 1, 0}};
        for (int[] order : orders) {
            MapRun turned = fourForks();
            turned.runner(0, 0, 3 + 9 * 2);
            turned.runner(0, 0, 1 + 3 * 2 + 27 * 2);
            turned.runner(0, 0, 2 + 9 + 27);
            turned.runner(0, 0, 2 + 9 + 27 * 2);
            turned.runner(0, 0, 2 + 9 * 2 + 27);
            turned.runner(0, 0, 2 + 3 * 2 + 9 + 27);
            turned.runner(0, 0, 9 + 27);
            for (int third = 3; third < 7; third++) {
                int[] three = {0, 1, third};
                Check.same("all but one fork, " + third,
                        turned.team(three[order[0]], three[order[1]], three[order[2]]), -1);
            }
            Check.same("each fork in another order", turned.team(order[0], order[1], order[2]), 0);
        }
        MapRun y = Make.course(false);
        y.add(0, 0, 1, 0);
        y.runner(0, 0, 2);
        y.runner(0, 0, 3);
        y.runner(0, 0, 7);
        Check.same("branches, not posts; digits beyond them count for nothing", y.team(0, 1, 2), 0);
        Check.same("no forks", Make.runners(3).team(0, 1, 2), 0);
    }

    private static void post() {
        Doc.says("Promise 10", "A POST: its number.");
        MapRun x = Make.land(2, 2);
        Check.same("first", x.post(1, 1, 7), 0);
        Check.same("second, in the same cell", x.post(1, 1, 8), 1);
        x.course(true);
        x.add(0, 0, 0, 0);
        x.add(0, 1, 1, 1);
        Check.same("as told", x.best(0, 20), 15);
        x.runner(0, 0, 0);
        Check.same("a runner doesn't end it", x.post(0, 0, 1), 2);
        Doc.says("Promise 10", "NONE: there are 20");
        for (int i = 3; i < 20; i++) {
            Check.same("post", x.post(0, 0, 0), i);
        }
        Check.same("no more", x.post(1, 0, 0), -1);
        Check.same("no more came", x.count(1), 20);
        Doc.says("Promise 10", "POINTS are not as told");
        MapRun y = Make.land(2, 2);
        int[] wrong = {-1, 100, Integer.MIN_VALUE, Integer.MAX_VALUE};
        for (int points : wrong) {
            Check.same("points " + points, y.post(0, 0, points), -1);
        }
        Check.same("none came", y.count(1), 0);
        Doc.says("Promise 10", "or its CELL can't be entered.");
        y.takes(5, 0);
        y.cell(1, 0, 5, 0);
        Check.same("barred", y.post(1, 0, 1), -1);
        Check.same("none came", y.count(1), 0);
        Check.same("another cell", y.post(0, 0, 1), 0);
    }

    private static void course() {
        Doc.says("Promise 11", "A COURSE: its number.");
        MapRun x = new MapRun();
        Check.same("first", x.course(true), 0);
        Check.same("second", x.course(false), 1);
        x.runner(0, 0, 0);
        Check.same("a runner doesn't end it", x.course(true), 2);
        Doc.says("Promise 11", "NONE: there are 8.");
        for (int i = 3; i < 8; i++) {
            Check.same("course", x.course(false), i);
        }
        Check.same("no more", x.course(false), -1);
        Check.same("no more came", x.count(2), 8);
    }

    private static void add() {
        Doc.says("Promise 12", "An ELEMENT more: how many there are.");
        MapRun x = Make.course(false);
        Check.same("a post", x.add(0, 1, 1, 1), 1);
        Check.same("a fork", x.add(0, 1, 2, 3), 2);
        Check.same("the same post again", x.add(0, 1, 1, 1), 3);
        Doc.says("Promise 12", "Where b is a it is the POST a (c, a POST, too, counts for nothing).");
        Check.same("c another one", x.add(0, 3, 3, 0), 4);
        Check.noSuch("c no post", () -> x.add(0, 3, 3, 5));
        Check.same("no fork by c alone, so there is room for three", x.add(0, 0, 1, 1), 5);
        Check.same("c is a: a fork", x.add(0, 0, 1, 0), 6);
        Check.same("the 4th fork", x.add(0, 2, 1, 1), 7);
        Check.same("the 5th", x.add(0, 2, 1, 1), -1);
        MapRun posts = Make.course(false);
        for (int i = 1; i <= 8; i++) {
            Check.same("posts, whatever c", posts.add(0, 0, 0, 4), i);
        }
        for (int i = 9; i <= 12; i++) {
            Check.same("forks, though c is a", posts.add(0, 0, 4, 0), i);
        }
        MapRun forks = Make.course(false);
        for (int i = 1; i <= 4; i++) {
            forks.add(0, 0, 4, 0);
        }
        Check.same("the 5th of such", forks.add(0, 0, 4, 0), -1);
        x.runner(0, 0, 80);
        Check.same("whatever the variant", x.row(0, 3), 3);
        Check.same("as the first", x.row(0, 0), 1);
    }

    private static void addRefused() {
        Doc.says("Promise 12", "NONE: there are 12");
        MapRun x = Make.course(false, 0, 1, 2, 3, 4, 0, 1, 2, 3, 4, 0);
        Check.same("the 12th, a fork", x.add(0, 0, 1, 2), 12);
        Check.same("a post more", x.add(0, 0, 0, 0), -1);
        Check.same("a fork more", x.add(0, 0, 1, 2), -1);
        x.runner(0, 0, 0);
        Check.same("none came", x.row(0, -1), 12);
        Doc.says("Promise 12", "or a RUNNER");
        MapRun y = Make.course(true, 0);
        y.course(true);
        y.runner(1, 0, 0);
        Check.same("a runner of another course", y.add(0, 1, 1, 1), 2);
        y.runner(0, 0, 0);
        Check.same("its own", y.add(0, 1, 1, 1), -1);
        Check.same("of an empty course", y.add(1, 1, 1, 1), -1);
        Check.same("none came", y.row(0, -1), 0);
        Doc.says("Promise 12", "it is a FORK (b is not a) of a FREE COURSE");
        MapRun z = Make.course(true);
        Check.same("three posts", z.add(0, 0, 1, 2), -1);
        Check.same("c is a", z.add(0, 0, 1, 0), -1);
        Check.same("c is b", z.add(0, 0, 1, 1), -1);
        Check.same("b is a", z.add(0, 0, 0, 1), 1);
        Doc.says("Promise 12", "or the 5th.");
        MapRun forks = fourForks();
        Check.same("the 5th fork", forks.add(0, 0, 1, 2), -1);
        Check.same("a post", forks.add(0, 0, 0, 1), 9);
        forks.course(false);
        Check.same("of another course it is the first", forks.add(1, 0, 1, 2), 1);
    }

    private static void addOfNothing() {
        Doc.says("Promise 12", "NoSuchElementException: no such COURSE, POSTS (as everywhere).");
        MapRun x = Make.course(false);
        Check.noSuch("course 1", () -> x.add(1, 0, 0, 0));
        Check.noSuch("course -1", () -> x.add(-1, 0, 0, 0));
        int[] wrong = {5, -1, Integer.MAX_VALUE, Integer.MIN_VALUE};
        for (int post : wrong) {
            Check.noSuch("a " + post, () -> x.add(0, post, 0, 0));
            Check.noSuch("b " + post, () -> x.add(0, 0, post, 0));
            Check.noSuch("c " + post, () -> x.add(0, 0, 1, post));
            Check.noSuch("a and b " + post, () -> x.add(0, post, post, 0));
        }
        x.runner(0, 0, 0);
        Check.same("none came", x.row(0, -1), 0);
        Check.noSuch("a post that is none, on a course with a runner", () -> x.add(0, 5, 5, 5));
        Check.noSuch("a runner's course", () -> x.runner(1, 0, 0));
        Check.noSuch("a runner's course -1", () -> x.runner(-1, 0, 0));
        Check.noSuch("a draw's course", () -> x.draw(1, 0, 0));
        Check.noSuch("a draw's course -1", () -> x.draw(-1, 0, 0));
        Check.noSuch("a best's course", () -> x.best(1, 0));
        Check.noSuch("a best's course -1", () -> x.best(-1, 0));
        Check.noSuch("a punch's post", () -> x.event(1, 0, 5, 0));
        Check.noSuch("a punch's post -1", () -> x.event(1, 0, -1, 0));
        Check.noSuch("no course at all", () -> new MapRun().runner(0, 0, 0));
        int[] farOff = {2, 7, 8, 9, -2, Integer.MAX_VALUE, Integer.MIN_VALUE};
        for (int course : farOff) {
            Check.noSuch("add to " + course, () -> x.add(course, 0, 0, 0));
            Check.noSuch("runner of " + course, () -> x.runner(course, 0, 0));
            Check.noSuch("draw of " + course, () -> x.draw(course, 0, 0));
            Check.noSuch("best of " + course, () -> x.best(course, 0));
        }
    }

    private static void runner() {
        Doc.says("Promise 13", "A RUNNER: its number.");
        MapRun x = Make.course(false);
        Check.same("first", x.runner(0, 9, 80), 0);
        Check.same("second, all the same", x.runner(0, 9, 80), 1);
        x.go(5);
        x.event(0, 0, 0, 0);
        Check.same("later", x.runner(0, 0, 0), 2);
        Doc.says("Promise 13", "NONE: there are 40");
        for (int i = 3; i < 40; i++) {
            Check.same("runner", x.runner(0, 1, 1), i);
        }
        Check.same("no more", x.runner(0, 1, 1), -1);
        Check.same("no more came", x.count(3), 40);
        Doc.says("Promise 13", "or CLUB, VARIANT are not as told.");
        MapRun y = Make.course(false);
        int[] wrong = {-1, 81, Integer.MIN_VALUE, Integer.MAX_VALUE};
        for (int number : wrong) {
            Check.same("club " + number, y.runner(0, number, 0), -1);
            Check.same("variant " + number, y.runner(0, 0, number), -1);
        }
        Check.same("club 10", y.runner(0, 10, 0), -1);
        Check.same("none came", y.count(3), 0);
        Check.same("the course is not fixed by that", y.add(0, 0, 0, 0), 1);
        Check.yes("nor the land", y.takes(0, 6));
    }

    private static void row() {
        Doc.says("Promise 14", "The POST at a place of a RUNNER's ROW");
        MapRun x = Make.course(false, 4, 2, 0);
        x.runner(0, 0, 0);
        int[] due = {4, 2, 0};
        for (int place = 0; place < 3; place++) {
            Check.same("place " + place, x.row(0, place), due[place]);
        }
        Doc.says("Promise 14", "place NONE: how many");
        Check.same("three", x.row(0, MapRun.NONE), 3);
        x.course(true);
        x.runner(1, 0, 0);
        Check.same("none", x.row(1, MapRun.NONE), 0);
        Doc.says("Promise 14", "place 100: LENGTH.");
        MapRun y = Make.line(4);
        y.course(false);
        y.add(0, 2, 2, 2);
        y.add(0, 1, 1, 1);
        y.runner(0, 0, 0);
        Check.same("length", y.row(0, 100), 10 + 5 + 10);
        y.way(3, 0, 2, 0);
        y.row(0, 100);
        Check.same("it keeps no way", y.move(-1), 1);
    }

    private static void rowOfNothing() {
        Doc.says("Promise 14", "NoSuchElementException: no such RUNNER (as everywhere), place.");
        MapRun x = Make.course(false, 0, 1);
        x.runner(0, 0, 0);
        int[] wrong = {2, -2, 11, 12, 99, 101, Integer.MIN_VALUE, Integer.MAX_VALUE};
        for (int place : wrong) {
            Check.noSuch("place " + place, () -> x.row(0, place));
        }
        x.course(false);
        x.runner(1, 0, 0);
        Check.noSuch("the first place of an empty row", () -> x.row(1, 0));
        int[] nobody = {2, -1, Integer.MAX_VALUE, Integer.MIN_VALUE};
        for (int runner : nobody) {
            Check.noSuch("row of " + runner, () -> x.row(runner, -1));
            Check.noSuch("length of " + runner, () -> x.row(runner, 100));
            Check.noSuch("team with first " + runner, () -> x.team(runner, 0, 1));
            Check.noSuch("team with second " + runner, () -> x.team(0, runner, 1));
            Check.noSuch("team with third " + runner, () -> x.team(0, 1, runner));
            Check.noSuch("start of " + runner, () -> x.event(0, runner, 0, 0));
            Check.noSuch("finish of " + runner, () -> x.event(2, runner, 0, 0));
            Check.noSuch("judged " + runner, () -> x.judged(runner, 0, 0));
            Check.noSuch("split of " + runner, () -> x.split(runner, 0, 0));
            Check.noSuch("protest against " + runner, () -> x.protest(runner));
            Check.noSuch("track of " + runner, () -> x.track(runner, 0));
            Check.noSuch("lost by " + runner, () -> x.lost(runner));
        }
    }

    private static void team() {
        Doc.says("Promise 15", "A TEAM: its number.");
        MapRun x = Make.runners(36);
        Check.same("first", x.team(0, 1, 2), 0);
        Check.same("second", x.team(5, 4, 3), 1);
        Doc.says("Promise 15", "NONE: there are 10");
        for (int i = 2; i < 10; i++) {
            Check.same("team", x.team(3 * i, 3 * i + 1, 3 * i + 2), i);
        }
        Check.same("no more", x.team(30, 31, 32), -1);
        Check.same("no more came", x.count(4), 10);
        Doc.says("Promise 15", "or they can't be one.");
        MapRun y = Make.runners(4);
        Check.same("not three", y.team(0, 1, 1), -1);
        Check.same("none came", y.count(4), 0);
        y.event(0, 1, 0, 0);
        Check.same("so none is second of it, its start is as told", y.judged(1, 1, 0), 0);
        Check.same("they still can be one", y.team(0, 1, 2), 0);
        Check.same("one is", y.team(3, 0, 1), -1);
    }
}
