import java.math.BigInteger;
import java.util.ArrayList;
import java.util.List;

/** Terms 6 and promise 27, sentence by sentence. */
final class EdgesDraw {
    private static final String TERMS = "Terms 6";

    private EdgesDraw() { }

    static void all() {
        ofACourse();
        withoutAStart();
        notBehindInATeam();
        byNumber();
        fromTheLastPlace();
        seedsThatWrap();
        highestBits();
        anotherClub();
        othersCanFollow();
        noRow();
        secondsApart();
        toldInOrder();
        draw();
        refusedRow();
        refusedEnd();
        refusedEvents();
        refusedSecond();
    }

    /** The row that a seed makes of 0 to n - 1, told again with whole numbers that do not wrap by themselves. */
    private static List<Integer> shuffled(int n, long seed) {
        BigInteger all = BigInteger.ONE.shiftLeft(64);
        BigInteger state = BigInteger.valueOf(seed).mod(all);
        List<Integer> row = new ArrayList<>();
        for (int i = 0; i < n; i++) {
            row.add(i);
        }
        for (int i = n - 1; i >= 1; i--) {
            state = state.multiply(new BigInteger("6364136223846793005"))
                    .add(new BigInteger("1442695040888963407")).mod(all);
            int j = state.shiftRight(33).mod(BigInteger.valueOf(i + 1)).intValue();
            Integer moved = row.get(i);
            row.set(i, row.get(j));
            row.set(j, moved);
        }
        return row;
    }

    /** Runners start in this order from a second on, sixty apart. */
    private static void startInOrder(MapRun x, List<Integer> row, int first) {
        for (int i = 0; i < row.size(); i++) {
            Check.same("start of " + row.get(i), x.judged(row.get(i), 1, 0), first + 60 * i);
        }
    }

    private static void drawsShuffled(int n, long seed) {
        MapRun x = Make.runners(n);
        Check.same("seed " + seed, x.draw(0, seed, 7), n);
        startInOrder(x, shuffled(n, seed), 7);
    }

    private static void ofACourse() {
        Doc.says(TERMS, "THE DRAW of a COURSE by a SEED (a long), from a second on");
        MapRun x = Make.clubs(0, 1, 2);
        x.course(true);
        x.runner(1, 0, 0);
        x.runner(1, 1, 0);
        Check.same("of course 1", x.draw(1, 1L << 40, 9), 2);
        for (int i = 0; i < 3; i++) {
            Check.same("none of course 0", x.judged(i, 1, 0), -1);
        }
        Check.same("from 9 on", x.judged(3, 1, 0) + x.judged(4, 1, 0), 9 + 69);
        MapRun both = Make.clubs(0, 1, 2);
        both.course(false);
        both.runner(1, 3, 0);
        both.runner(1, 4, 0);
        Check.same("of course 0", both.draw(0, 5, 9), 3);
        for (int i = 3; i < 5; i++) {
            Check.same("none of course 1", both.judged(i, 1, 0), -1);
        }
        Check.no("another seed, another row", shuffled(10, 1).equals(shuffled(10, 1 + (1L << 40))));
        drawsShuffled(10, 1);
        drawsShuffled(10, 1 + (1L << 40));
    }

    private static void withoutAStart() {
        Doc.says(TERMS, "all its RUNNERS that have no START told (as known NOW)");
        MapRun x = Make.clubs(0, 1, 2, 3);
        x.event(0, 0, 0, 500);
        x.event(0, 1, 0, 500);
        x.event(2, 2, 0, 0);
        x.go(5);
        x.back(1);
        Check.same("1, 2 and 3", x.draw(0, 3, 10), 3);
        Check.same("told ahead, to come", x.judged(0, 1, 5), 500);
        Check.yes("its start was taken back", x.judged(1, 1, 5) < 500);
        Check.same("all have one now", x.draw(0, 3, 10), 0);
        x.back(3);
        Check.same("one taken back can be drawn again", x.draw(0, 3, 1000), 1);
    }

    private static void notBehindInATeam() {
        Doc.says(TERMS, "and are not second or third of a TEAM");
        MapRun x = Make.clubs(0, 1, 2, 3);
        x.team(2, 0, 1);
        Check.same("the first and one in none", x.draw(0, 3, 10), 2);
        Check.same("the second", x.judged(0, 1, 0), -1);
        Check.same("the third", x.judged(1, 1, 0), -1);
        Check.same("the others", x.judged(2, 1, 0) + x.judged(3, 1, 0), 10 + 70);
    }

    private static void byNumber() {
        Doc.says(TERMS, "by number in a row");
        MapRun x = Make.runners(6);
        x.event(0, 0, 0, 0);
        x.event(0, 3, 0, 0);
        x.draw(0, 77, 7);
        int[] left = {1, 2, 4, 5};
        List<Integer> row = shuffled(4, 77);
        for (int i = 0; i < 4; i++) {
            Check.same("start of " + left[row.get(i)], x.judged(left[row.get(i)], 1, 0), 7 + 60 * i);
        }
    }

    private static void fromTheLastPlace() {
        Doc.says(TERMS, "for i from the last place down to 1");
        for (int n = 1; n <= 10; n++) {
            drawsShuffled(n, 1000 + n);
        }
        Check.same("of one nothing is changed", shuffled(1, 5).get(0), 0);
    }

    private static void seedsThatWrap() {
        Doc.says(TERMS, "SEED becomes SEED times 6364136223846793005 and 1442695040888963407 more (longs that wrap)");
        long[] seeds = {0, 1, -1, 2, Long.MAX_VALUE, Long.MIN_VALUE, Long.MAX_VALUE - 1, Integer.MIN_VALUE,
            6364136223846793005L, -1442695040888963407L};
        for (long seed : seeds) {
            drawsShuffled(10, seed);
        }
    }

    private static void highestBits() {
        Doc.says(TERMS, "its highest 31 bits, as a whole number, modulo i + 1 is j: what is at i and at j change places.");
        // seed 0 makes 1442695040888963407, whose highest 31 bits are 167951807, an odd number: 0 and 1 stay
        MapRun stays = Make.clubs(0, 1);
        stays.draw(0, 0, 0);
        Check.same("0 first", stays.judged(0, 1, 0), 0);
        boolean high = false;
        boolean low = false;
        for (long seed = 1; seed < 12; seed++) {
            long next = seed * 6364136223846793005L + 1442695040888963407L;
            high |= next < 0;
            low |= next >= 0;
            MapRun x = Make.clubs(0, 1);
            x.draw(0, seed, 0);
            boolean odd = (next >> 33 & 1) == 1;
            Check.same("0 with seed " + seed, x.judged(0, 1, 0), odd ? 0 : 60);
            Check.same("1 with seed " + seed, x.judged(1, 1, 0), odd ? 60 : 0);
            drawsShuffled(9, seed);
        }
        Check.yes("some with the highest bit, some without", high && low);
    }

    private static void anotherClub() {
        Doc.says(TERMS, "Then each next one to start is the first of that row, not taken yet, whose CLUB is another than "
                + "the one's ahead");
        for (long seed = 0; seed < 20; seed++) {
            int[] clubs = {0, 0, 1, 2, 3};
            MapRun x = Make.clubs(clubs);
            x.draw(0, seed, 0);
            List<Integer> row = shuffled(5, seed);
            List<Integer> due = new ArrayList<>();
            int ahead = -1;
            while (!row.isEmpty()) {
                int at = 0;
                while (clubs[row.get(at)] == ahead || !canFollow(row, at, clubs)) {
                    at++;
                }
                ahead = clubs[row.get(at)];
                due.add(row.remove(at));
            }
            startInOrder(x, due, 0);
        }
    }

    /** The rest of a row behind one of it, by trying all. */
    private static boolean canFollow(List<Integer> row, int at, int[] clubs) {
        List<Integer> rest = new ArrayList<>(row);
        int ahead = clubs[rest.remove(at)];
        boolean can = rest.isEmpty();
        for (int i = 0; i < rest.size() && !can; i++) {
            can = clubs[rest.get(i)] != ahead && canFollow(rest, i, clubs);
        }
        return can;
    }

    private static void othersCanFollow() {
        Doc.says(TERMS, "so that the others can follow so that none follows one of its own CLUB.");
        for (long seed = 0; seed < 10; seed++) {
            MapRun x = Make.clubs(4, 5, 4, 6, 4);
            Check.same("three of five", x.draw(0, seed, 0), 5);
            Check.same("of one club, first, third and last", x.judged(0, 1, 0) + x.judged(2, 1, 0) + x.judged(4, 1, 0),
                    360);
            Check.yes("none of them second", x.judged(0, 1, 0) % 120 == 0 && x.judged(2, 1, 0) % 120 == 0);
        }
        for (int club = 0; club < 10; club++) {
            int other = (club + 3) % 10;
            int third = (club + 5) % 10;
            for (long seed = 0; seed < 8; seed++) {
                MapRun x = Make.clubs(club, other, club, third, club);
                Check.same("three of club " + club, x.draw(0, seed, 0), 5);
                Check.same("the other between them", x.judged(1, 1, 0) % 120, 60);
                Check.same("the third too", x.judged(3, 1, 0) % 120, 60);
                Check.same("three of four", Make.clubs(club, other, club, club).draw(0, seed, 0), -1);
            }
        }
        MapRun two = Make.clubs(1, 1, 1, 2, 2, 2);
        Check.same("two clubs in turn", two.draw(0, 8, 0), 6);
        int first = two.judged(0, 1, 0) / 60 % 2;
        for (int i = 0; i < 6; i++) {
            Check.same("of " + i, two.judged(i, 1, 0) / 60 % 2, i < 3 ? first : 1 - first);
        }
    }

    private static void noRow() {
        Doc.says(TERMS, "If there is no such row at all, none is drawn.");
        int[][] none = {{1, 1}, {1, 1, 1, 2}, {3, 3, 3, 1, 2, 3, 3, 3}, {0, 0, 0, 0, 1, 2}};
        for (int[] clubs : none) {
            MapRun x = Make.clubs(clubs);
            Check.same("no row of " + clubs.length, x.draw(0, 4, 0), -1);
            for (int i = 0; i < clubs.length; i++) {
                Check.same("none is drawn, " + i, x.judged(i, 1, 0), -1);
            }
        }
        Check.same("forty of one club", Make.clubs(new int[40]).draw(0, 4, 0), -1);
        MapRun other = Make.clubs(0, 1, 2, 3);
        other.draw(0, 4, 0);
        other.course(false);
        other.runner(1, 5, 0);
        other.runner(1, 5, 0);
        Check.same("those of another course don't fill the row", other.draw(1, 4, 0), -1);
        int[][] just = {{1}, {1, 1, 2}, {3, 3, 1, 2, 3}, {0, 0, 0, 1, 2}, {0, 0, 1, 1}};
        for (int[] clubs : just) {
            Check.same("a row of " + clubs.length, Make.clubs(clubs).draw(0, 4, 0), clubs.length);
        }
    }

    private static void secondsApart() {
        Doc.says(TERMS, "The first STARTS at that second, each next one 'gap' later");
        drawsShuffled(5, 12);
        MapRun x = Make.runners(4);
        Check.rules(x, "set gap 7;");
        x.draw(0, 12, 100);
        List<Integer> row = shuffled(4, 12);
        for (int i = 0; i < 4; i++) {
            Check.same("start of " + row.get(i), x.judged(row.get(i), 1, 0), 100 + 7 * i);
        }
        MapRun y = Make.runners(4);
        Check.rules(y, "set gap 0;");
        y.draw(0, 12, 100);
        for (int i = 0; i < 4; i++) {
            Check.same("all at once", y.judged(i, 1, 0), 100);
        }
    }

    private static void toldInOrder() {
        Doc.says(TERMS, "(EVENTS are told in that order).");
        MapRun x = Make.runners(4);
        x.event(2, 0, 0, 0);
        x.go(3);
        x.draw(0, 12, 100);
        List<Integer> row = shuffled(4, 12);
        Check.same("five events", x.count(5), 5);
        for (int i = 0; i < 4; i++) {
            Check.same("told NOW", x.judged(row.get(i), 1, 2), -1);
            Check.same("a start", x.judged(row.get(i), 1, 3), 100 + 60 * i);
            x.back(1 + i);
            Check.same("that was event " + (1 + i), x.judged(row.get(i), 1, 3), -1);
        }
    }

    private static void draw() {
        Doc.says("Promise 27", "THE DRAW of a COURSE: how many STARTS were told.");
        MapRun x = Make.runners(7);
        Check.same("seven", x.draw(0, 1, 0), 7);
        Check.same("seven events", x.count(5), 7);
        Check.same("nobody is left", x.draw(0, 1, 0), 0);
        x.course(false);
        Check.same("a course without runners", x.draw(1, 1, 0), 0);
        Check.same("no more events", x.count(5), 7);
        MapRun most = Make.runners(40);
        Check.same("forty", most.draw(0, 1, 0), 40);
    }

    private static void refusedRow() {
        Doc.says("Promise 27", "NONE, and nothing changes: no such row");
        MapRun x = Make.clubs(1, 1, 1, 2);
        x.event(0, 3, 0, 5);
        Check.same("three of one club", x.draw(0, 1, 0), -1);
        Check.same("no event came", x.count(5), 1);
        x.back(0);
        Check.same("three of four", x.draw(0, 1, 0), -1);
        x.runner(0, 3, 0);
        Check.same("three of five", x.draw(0, 1, 0), 5);
    }

    private static void refusedEnd() {
        Doc.says("Promise 27", "the last one would be above 99999");
        MapRun x = Make.runners(3);
        Check.same("by one", x.draw(0, 1, 99999 - 119), -1);
        Check.same("no event came", x.count(5), 0);
        Check.same("just at it", x.draw(0, 1, 99999 - 120), 3);
        MapRun one = Make.runners(1);
        Check.rules(one, "set gap 99999;");
        Check.same("of one no gap counts", one.draw(0, 1, 99999), 1);
        MapRun wide = Make.runners(40);
        Check.rules(wide, "set gap 99999;");
        Check.same("far above", wide.draw(0, 1, 99999), -1);
        Check.same("nobody is never too late", Make.clubs().draw(0, 1, 99999), 0);
    }

    private static void refusedEvents() {
        Doc.says("Promise 27", "there would be more than 500 EVENTS");
        MapRun x = Make.runners(3);
        for (int i = 0; i < 498; i++) {
            x.event(2, 0, 0, 0);
        }
        Check.same("501", x.draw(0, 1, 0), -1);
        Check.same("none came", x.count(5), 498);
        Check.same("none has a start", x.judged(0, 1, 0), -1);
        MapRun y = Make.runners(3);
        for (int i = 0; i < 497; i++) {
            y.event(2, 0, 0, 0);
        }
        Check.same("just 500", y.draw(0, 1, 0), 3);
        Check.same("500", y.count(5), 500);
    }

    private static void refusedSecond() {
        Doc.says("Promise 27", "or the second is not NOW to 99999.");
        MapRun x = Make.runners(1);
        x.go(50);
        int[] wrong = {49, 0, -1, 100000, Integer.MIN_VALUE, Integer.MAX_VALUE};
        for (int first : wrong) {
            Check.same("from " + first, x.draw(0, 1, first), -1);
        }
        Check.same("none came", x.count(5), 0);
        Check.same("NOW", x.draw(0, 1, 50), 1);
        Check.same("its start", x.judged(0, 1, 50), 50);
        MapRun y = Make.runners(1);
        Check.same("99999", y.draw(0, 1, 99999), 1);
        Check.same("its start", y.judged(0, 1, 0), 99999);
        Check.same("nobody, from 100000 on", y.draw(0, 1, 100000), -1);
    }
}
