import java.math.BigInteger;
import java.util.ArrayList;
import java.util.Arrays;
import java.util.HashMap;
import java.util.List;
import java.util.Map;
import java.util.NoSuchElementException;

/**
 * The document told again in its plainest form, without a thought of speed or room: what the random runs hold
 * MapRun against. It shares no way of working with it (no heap, no tables, no codes).
 */
final class Oracle {
    static final int NOTHING = -100000;
    private static final int[] DX = {0, 1, 0, -1};
    private static final int[] DY = {-1, 0, 1, 0};

    private record Post(int x, int y, int points) { }

    private static final class Course {
        boolean free;
        List<int[]> elements = new ArrayList<>();

        int forks() {
            return (int) elements.stream().filter(e -> e[0] != e[1]).count();
        }
    }

    private static final class Runner {
        int course;
        int club;
        int variant;
        Integer trackSeconds;
        List<int[]> trackCells;
    }

    private record Event(int kind, int runner, int post, int t, int told, int[] back) { }

    private static final class Protest {
        int runner;
        int how = -1;
        int adds;
        int at;
        int turn;
    }

    private int w;
    private int h;
    private int[][] ground;
    private int[][] height;
    private boolean[][] right;
    private boolean[][] down;
    private int[] takes;
    private int sx;
    private int sy;
    private int fx;
    private int fy;
    private List<Integer> keptWay;
    private List<Post> posts;
    private List<Course> courses;
    private List<Runner> runners;
    private List<int[]> teams;
    private List<Event> events;
    private List<Protest> protests;
    private int decisions;
    private int now;
    private int faultAt;
    private OracleRules rules;
    private int[] keptBest;
    private final List<Integer> tape = new ArrayList<>();

    Oracle() {
        renew(1, 1);
    }

    private void renew(int width, int depth) {
        w = width;
        h = depth;
        ground = new int[w][h];
        height = new int[w][h];
        right = new boolean[w][h];
        down = new boolean[w][h];
        takes = new int[] {5, 5, 5, 5, 5, 5, 5, 5, 2};
        sx = sy = fx = fy = 0;
        keptWay = null;
        posts = new ArrayList<>();
        courses = new ArrayList<>();
        runners = new ArrayList<>();
        teams = new ArrayList<>();
        events = new ArrayList<>();
        protests = new ArrayList<>();
        decisions = 0;
        now = 0;
        faultAt = -1;
        rules = OracleRules.read("");
        keptBest = null;
    }

    private void need(boolean there) {
        if (!there) {
            throw new NoSuchElementException();
        }
    }

    private void needCell(int x, int y) {
        need(x >= 0 && y >= 0 && x < w && y < h);
    }

    private void needArgument(boolean right) {
        if (!right) {
            throw new IllegalArgumentException();
        }
    }

    private boolean isPostAt(int x, int y) {
        return posts.stream().anyMatch(p -> p.x == x && p.y == y);
    }

    boolean land(int width, int depth) {
        if (width < 1 || depth < 1 || width > 20 || depth > 20) {
            return false;
        }
        renew(width, depth);
        return true;
    }

    boolean cell(int x, int y, int g, int hh) {
        needCell(x, y);
        if (!runners.isEmpty() || g < 0 || g > 7 || hh < 0 || hh > 99 || takes[g] == 0 && isPostAt(x, y)) {
            return false;
        }
        ground[x][y] = g;
        height[x][y] = hh;
        return true;
    }

    boolean takes(int g, int seconds) {
        need(g >= 0 && g <= 8);
        if (!runners.isEmpty() || seconds < 0 || seconds > (g == 8 ? 9 : 99)) {
            return false;
        }
        if (seconds == 0 && posts.stream().anyMatch(p -> ground[p.x][p.y] == g)) {
            return false;
        }
        takes[g] = seconds;
        return true;
    }

    boolean wall(int x, int y, int side, boolean is) {
        needCell(x, y);
        if (!runners.isEmpty()) {
            return false;
        }
        if (side == 1 && x + 1 < w) {
            right[x][y] = is;
            return true;
        }
        if (side == 2 && y + 1 < h) {
            down[x][y] = is;
            return true;
        }
        return false;
    }

    boolean gates(int ax, int ay, int bx, int by) {
        needCell(ax, ay);
        needCell(bx, by);
        if (!runners.isEmpty()) {
            return false;
        }
        sx = ax;
        sy = ay;
        fx = bx;
        fy = by;
        return true;
    }

    /** Seconds of a move, or -1 where it can't be made. */
    private int moveSeconds(int x, int y, int m) {
        int nx = x + DX[m];
        int ny = y + DY[m];
        if (nx < 0 || ny < 0 || nx >= w || ny >= h) {
            return -1;
        }
        boolean walled = switch (m) {
            case 0 -> down[nx][ny];
            case 1 -> right[x][y];
            case 2 -> down[x][y];
            default -> right[nx][ny];
        };
        int s = takes[ground[nx][ny]];
        if (walled || s == 0) {
            return -1;
        }
        return s + takes[8] * Math.max(0, height[nx][ny] - height[x][y]);
    }

    /** [x][y] seconds and moves of the least ways to a cell, by going over all moves till nothing changes. */
    private int[][][] distances(int tx, int ty) {
        int[][][] d = new int[w][h][];
        d[tx][ty] = new int[] {0, 0};
        boolean changed = true;
        while (changed) {
            changed = false;
            for (int x = 0; x < w; x++) {
                for (int y = 0; y < h; y++) {
                    for (int m = 0; m < 4; m++) {
                        int s = moveSeconds(x, y, m);
                        if (s < 0 || d[x + DX[m]][y + DY[m]] == null) {
                            continue;
                        }
                        int[] rest = d[x + DX[m]][y + DY[m]];
                        int[] by = {rest[0] + s, rest[1] + 1};
                        if (d[x][y] == null || by[0] < d[x][y][0] || by[0] == d[x][y][0] && by[1] < d[x][y][1]) {
                            d[x][y] = by;
                            changed = true;
                        }
                    }
                }
            }
        }
        return d;
    }

    private int seconds(int x, int y, int tx, int ty) {
        int[] d = distances(tx, ty)[x][y];
        return d == null ? -1 : d[0];
    }

    int way(int x, int y, int tx, int ty) {
        needCell(x, y);
        needCell(tx, ty);
        int[][][] d = distances(tx, ty);
        if (d[x][y] == null) {
            return -1;
        }
        keptWay = new ArrayList<>();
        int cx = x;
        int cy = y;
        while (cx != tx || cy != ty) {
            for (int m = 0; m < 4; m++) {
                int s = moveSeconds(cx, cy, m);
                int[] rest = s < 0 ? null : d[cx + DX[m]][cy + DY[m]];
                if (rest != null && rest[0] + s == d[cx][cy][0] && rest[1] + 1 == d[cx][cy][1]) {
                    keptWay.add(m);
                    cx += DX[m];
                    cy += DY[m];
                    break;
                }
            }
        }
        return d[x][y][0];
    }

    int move(int i) {
        need(keptWay != null);
        if (i == -1) {
            return keptWay.size();
        }
        need(i >= 0 && i < keptWay.size());
        return keptWay.get(i);
    }

    long many(int x, int y, int tx, int ty) {
        needCell(x, y);
        needCell(tx, ty);
        BigInteger n = manyFrom(x, y, tx, ty, distances(tx, ty), new HashMap<>());
        return n.min(BigInteger.valueOf(1000000000000L)).longValue();
    }

    private BigInteger manyFrom(int x, int y, int tx, int ty, int[][][] d, Map<Integer, BigInteger> memo) {
        if (x == tx && y == ty) {
            return BigInteger.ONE;
        }
        BigInteger known = memo.get(x * 100 + y);
        if (known != null) {
            return known;
        }
        BigInteger sum = BigInteger.ZERO;
        for (int m = 0; m < 4 && d[x][y] != null; m++) {
            int s = moveSeconds(x, y, m);
            int[] rest = s < 0 ? null : d[x + DX[m]][y + DY[m]];
            if (rest != null && rest[0] + s == d[x][y][0]) {
                sum = sum.add(manyFrom(x + DX[m], y + DY[m], tx, ty, d, memo));
            }
        }
        memo.put(x * 100 + y, sum);
        return sum;
    }

    int post(int x, int y, int points) {
        needCell(x, y);
        if (posts.size() == 20 || points < 0 || points > 99 || takes[ground[x][y]] == 0) {
            return -1;
        }
        posts.add(new Post(x, y, points));
        return posts.size() - 1;
    }

    int course(boolean free) {
        if (courses.size() == 8) {
            return -1;
        }
        Course c = new Course();
        c.free = free;
        courses.add(c);
        return courses.size() - 1;
    }

    private void needPost(int p) {
        need(p >= 0 && p < posts.size());
    }

    private void needRunner(int r) {
        need(r >= 0 && r < runners.size());
    }

    int add(int course, int a, int b, int c) {
        need(course >= 0 && course < courses.size());
        needPost(a);
        needPost(b);
        needPost(c);
        Course it = courses.get(course);
        if (it.elements.size() == 12 || runners.stream().anyMatch(r -> r.course == course)) {
            return -1;
        }
        if (a != b && (it.free || it.forks() == 4)) {
            return -1;
        }
        it.elements.add(a == b ? new int[] {a, a, a} : new int[] {a, b, c});
        return it.elements.size();
    }

    int runner(int course, int club, int variant) {
        need(course >= 0 && course < courses.size());
        if (runners.size() == 40 || club < 0 || club > 9 || variant < 0 || variant > 80) {
            return -1;
        }
        Runner r = new Runner();
        r.course = course;
        r.club = club;
        r.variant = variant;
        runners.add(r);
        return runners.size() - 1;
    }

    private int branch(int variant, int fork) {
        return variant / new int[] {1, 3, 9, 27}[fork] % 3;
    }

    private List<Integer> rowOf(int runner) {
        Runner r = runners.get(runner);
        List<Integer> row = new ArrayList<>();
        int fork = 0;
        for (int[] e : courses.get(r.course).elements) {
            row.add(e[0] == e[1] ? e[0] : e[branch(r.variant, fork++)]);
        }
        return row;
    }

    private int lengthOf(int runner) {
        int x = sx;
        int y = sy;
        int sum = 0;
        List<int[]> stops = new ArrayList<>();
        rowOf(runner).forEach(p -> stops.add(new int[] {posts.get(p).x, posts.get(p).y}));
        stops.add(new int[] {fx, fy});
        for (int[] stop : stops) {
            int s = seconds(x, y, stop[0], stop[1]);
            if (s < 0) {
                return -1;
            }
            sum += s;
            x = stop[0];
            y = stop[1];
        }
        return sum;
    }

    int row(int runner, int place) {
        needRunner(runner);
        List<Integer> row = rowOf(runner);
        if (place == 100) {
            return lengthOf(runner);
        }
        if (place == -1) {
            return row.size();
        }
        need(place >= 0 && place < row.size());
        return row.get(place);
    }

    int team(int a, int b, int c) {
        needRunner(a);
        needRunner(b);
        needRunner(c);
        if (teams.size() == 10 || a == b || a == c || b == c) {
            return -1;
        }
        for (int[] t : teams) {
            for (int m : t) {
                if (m == a || m == b || m == c) {
                    return -1;
                }
            }
        }
        int course = runners.get(a).course;
        if (runners.get(b).course != course || runners.get(c).course != course || courses.get(course).free) {
            return -1;
        }
        for (int f = 0; f < courses.get(course).forks(); f++) {
            boolean[] run = new boolean[3];
            for (int r : new int[] {a, b, c}) {
                run[branch(runners.get(r).variant, f)] = true;
            }
            if (!run[0] || !run[1] || !run[2]) {
                return -1;
            }
        }
        teams.add(new int[] {a, b, c});
        return teams.size() - 1;
    }

    int go(int n) {
        needArgument(n >= 0 && (long) now + n <= 99999);
        now += n;
        return now;
    }

    int event(int kind, int runner, int post, int t) {
        need(kind >= 0 && kind <= 2);
        needRunner(runner);
        if (kind == 1) {
            needPost(post);
        }
        if (events.size() == 500 || t < 0 || t > (kind == 0 ? 99999 : now)) {
            return -1;
        }
        events.add(new Event(kind, runner, post, t, now, new int[] {-1}));
        return events.size() - 1;
    }

    boolean back(int event) {
        need(event >= 0 && event < events.size());
        int[] back = events.get(event).back;
        if (back[0] >= 0) {
            return false;
        }
        back[0] = now;
        return true;
    }

    private List<Event> known(int kind, int runner, int k) {
        return events.stream().filter(e -> e.kind == kind && e.runner == runner && e.told <= k
                && !(e.back[0] >= 0 && e.back[0] <= k)).toList();
    }

    private int latest(int kind, int runner, int k) {
        List<Event> all = known(kind, runner, k);
        return all.isEmpty() ? -1 : all.get(all.size() - 1).t;
    }

    private int startOf(int runner, int k) {
        for (int[] t : teams) {
            if (t[1] == runner) {
                return latest(2, t[0], k);
            }
            if (t[2] == runner) {
                return latest(2, t[1], k);
            }
        }
        return latest(0, runner, k);
    }

    /** A runner as known. */
    private final class View {
        int start;
        int finish;
        int run;
        int[] splitAt;
        int missed;
        int wrong;
        int score;
        int penalty;
        int added;
        int state;
        int total = NOTHING;

        View(int runner, int k) {
            Runner r = runners.get(runner);
            boolean free = courses.get(r.course).free;
            start = startOf(runner, k);
            finish = latest(2, runner, k);
            run = start < 0 || finish < 0 ? 0 : finish - start;
            List<Integer> row = rowOf(runner);
            List<Event> punches = new ArrayList<>(known(1, runner, k));
            punches.sort((a, b) -> Integer.compare(a.t, b.t));
            splitAt = new int[row.size()];
            Arrays.fill(splitAt, Integer.MIN_VALUE);
            if (free) {
                keepFree(row, punches);
            } else {
                keepInOrder(row, punches);
            }
            for (int i = 0; i < row.size(); i++) {
                if (splitAt[i] != Integer.MIN_VALUE) {
                    score += posts.get(row.get(i)).points;
                } else if (!free) {
                    missed++;
                }
            }
            wrong = (int) punches.stream().filter(p -> !row.contains(p.post)).count();
            Map<String, Integer> values = Map.of("missed", missed, "wrong", wrong, "run", run, "score", score,
                    "posts", row.size(), "club", r.club, "free", free ? 1 : 0);
            penalty = rules.penalty(values);
            judge(runner, k, rules.out(values), free);
        }

        private void keepFree(List<Integer> row, List<Event> punches) {
            for (int i = 0; i < row.size(); i++) {
                for (int j = punches.size() - 1; j >= 0; j--) {
                    if (punches.get(j).post == row.get(i)) {
                        splitAt[i] = punches.get(j).t;
                    }
                }
            }
        }

        private void keepInOrder(List<Integer> row, List<Event> punches) {
            for (int n = row.size(); n > 0; n--) {
                List<Integer> places = firstRow(row, punches, n, 0, new ArrayList<>());
                if (places != null) {
                    int at = 0;
                    for (int p : places) {
                        while (punches.get(at).post != row.get(p)) {
                            at++;
                        }
                        splitAt[p] = punches.get(at++).t;
                    }
                    return;
                }
            }
        }

        /** Tries rows of n places in their order, each against the punches from the start. */
        private List<Integer> firstRow(List<Integer> row, List<Event> punches, int n, int from, List<Integer> sofar) {
            if (!isFound(row, punches, sofar)) {
                return null;
            }
            if (n == 0) {
                return new ArrayList<>(sofar);
            }
            for (int p = from; p < row.size(); p++) {
                sofar.add(p);
                List<Integer> found = firstRow(row, punches, n - 1, p + 1, sofar);
                sofar.remove(sofar.size() - 1);
                if (found != null) {
                    return found;
                }
            }
            return null;
        }

        private boolean isFound(List<Integer> row, List<Event> punches, List<Integer> places) {
            int at = 0;
            for (int p : places) {
                while (at < punches.size() && punches.get(at).post != row.get(p)) {
                    at++;
                }
                if (at++ >= punches.size()) {
                    return false;
                }
            }
            return true;
        }

        private void judge(int runner, int k, boolean out, boolean free) {
            int how = 0;
            int turn = -1;
            for (Protest p : protests) {
                if (p.runner == runner && p.how > 0 && p.at <= k) {
                    added += p.adds;
                    if (p.turn > turn) {
                        turn = p.turn;
                        how = p.how;
                    }
                }
            }
            if (start < 0 || start > k) {
                state = 0;
            } else if (finish < 0 || finish < start) {
                state = 1;
            } else if (how == 2 || out && how != 1) {
                state = 2;
            } else if (missed > 0 && how != 1) {
                state = 3;
            } else {
                state = 4;
                total = free ? score - penalty - added : run + penalty + added;
            }
        }
    }

    int judged(int runner, int what, int k) {
        needRunner(runner);
        need(what >= 0 && what <= 8);
        needArgument(k >= 0 && k <= now);
        View v = new View(runner, k);
        return switch (what) {
            case 0 -> v.state;
            case 1 -> v.start;
            case 2 -> v.finish;
            case 3 -> v.missed;
            case 4 -> v.wrong;
            case 5 -> v.score;
            case 6 -> v.penalty;
            case 7 -> v.total;
            default -> v.state == 4 ? placeOf(runner, v, k) : -1;
        };
    }

    private int placeOf(int runner, View own, int k) {
        int course = runners.get(runner).course;
        int place = 1;
        for (int r = 0; r < runners.size(); r++) {
            View v = new View(r, k);
            if (runners.get(r).course != course || v.state != 4) {
                continue;
            }
            if (courses.get(course).free ? v.total > own.total || v.total == own.total && v.run < own.run
                    : v.total < own.total) {
                place++;
            }
        }
        return place;
    }

    int split(int runner, int place, int k) {
        needRunner(runner);
        need(place >= 0 && place < rowOf(runner).size());
        needArgument(k >= 0 && k <= now);
        View v = new View(runner, k);
        return v.start < 0 || v.splitAt[place] == Integer.MIN_VALUE ? -1 : v.splitAt[place] - v.start;
    }

    private Integer timeOf(int team, int k) {
        int sum = 0;
        for (int m : teams.get(team)) {
            View v = new View(m, k);
            if (v.state != 4) {
                return null;
            }
            sum += v.penalty + v.added;
        }
        return sum + new View(teams.get(team)[2], k).finish - new View(teams.get(team)[0], k).start;
    }

    int ofTeam(int team, int what, int k) {
        need(team >= 0 && team < teams.size());
        need(what == 0 || what == 1);
        needArgument(k >= 0 && k <= now);
        Integer own = timeOf(team, k);
        if (what == 0) {
            return own == null ? NOTHING : own;
        }
        if (own == null) {
            return -1;
        }
        int place = 1;
        for (int t = 0; t < teams.size(); t++) {
            Integer time = timeOf(t, k);
            if (runners.get(teams.get(t)[0]).course == runners.get(teams.get(team)[0]).course
                    && time != null && time < own) {
                place++;
            }
        }
        return place;
    }

    int feed(int a, int b, int c, int d, int e) {
        if (tape.size() + 20 > 500) {
            return -1;
        }
        for (int n : new int[] {a, b, c, d, e}) {
            tape.add(n >>> 24);
            tape.add(n >> 16 & 255);
            tape.add(n >> 8 & 255);
            tape.add(n & 255);
        }
        return tape.size();
    }

    private String takeTape(int n) {
        needArgument(n >= 0 && n <= tape.size());
        StringBuilder text = new StringBuilder();
        for (int i = 0; i < n; i++) {
            text.append((char) (int) tape.get(i));
        }
        tape.clear();
        return text.toString();
    }

    int rules(int n) {
        OracleRules read = OracleRules.read(takeTape(n));
        faultAt = read.faultAt;
        if (read.fault == 0) {
            rules = read;
        }
        return read.fault;
    }

    int fault() {
        return faultAt;
    }

    int protest(int runner) {
        needRunner(runner);
        List<Event> finishes = known(2, runner, now);
        if (protests.size() == 40 || finishes.isEmpty()) {
            return -1;
        }
        if (now - finishes.get(finishes.size() - 1).told > rules.param("window")) {
            return -1;
        }
        Protest p = new Protest();
        p.runner = runner;
        protests.add(p);
        return protests.size() - 1;
    }

    boolean decide(int protest, int how, int adds) {
        need(protest >= 0 && protest < protests.size());
        Protest p = protests.get(protest);
        if (p.how >= 0 || how < 0 || how > 2 || adds < -999 || adds > 999) {
            return false;
        }
        p.how = how;
        p.adds = adds;
        p.at = now;
        p.turn = decisions++;
        return true;
    }

    int draw(int course, long seed, int first) {
        need(course >= 0 && course < courses.size());
        if (first < now || first > 99999) {
            return -1;
        }
        List<Integer> row = new ArrayList<>();
        for (int r = 0; r < runners.size(); r++) {
            int it = r;
            boolean follows = teams.stream().anyMatch(t -> t[1] == it || t[2] == it);
            if (runners.get(r).course == course && !follows && known(0, r, now).isEmpty()) {
                row.add(r);
            }
        }
        long s = seed;
        for (int i = row.size() - 1; i >= 1; i--) {
            s = s * 6364136223846793005L + 1442695040888963407L;
            int j = (int) Long.remainderUnsigned(s >>> 33, i + 1);
            Integer at = row.get(i);
            row.set(i, row.get(j));
            row.set(j, at);
        }
        List<Integer> drawn = new ArrayList<>();
        if (!canFollow(row, -1, new HashMap<>())) {
            return -1;
        }
        int ahead = -1;
        while (!row.isEmpty()) {
            for (int i = 0; i < row.size(); i++) {
                List<Integer> rest = new ArrayList<>(row);
                int next = rest.remove(i);
                int club = runners.get(next).club;
                if (club != ahead && canFollow(rest, club, new HashMap<>())) {
                    drawn.add(next);
                    ahead = club;
                    row = rest;
                    break;
                }
            }
        }
        int gap = rules.param("gap");
        if (!drawn.isEmpty() && first + (drawn.size() - 1L) * gap > 99999 || events.size() + drawn.size() > 500) {
            return -1;
        }
        for (int i = 0; i < drawn.size(); i++) {
            events.add(new Event(0, drawn.get(i), -1, first + i * gap, now, new int[] {-1}));
        }
        return drawn.size();
    }

    /** Tries every next club. */
    private boolean canFollow(List<Integer> rest, int ahead, Map<String, Boolean> memo) {
        if (rest.isEmpty()) {
            return true;
        }
        int[] clubs = new int[10];
        rest.forEach(r -> clubs[runners.get(r).club]++);
        return canFollow(clubs, rest.size(), ahead, memo);
    }

    private boolean canFollow(int[] clubs, int left, int ahead, Map<String, Boolean> memo) {
        if (left == 0) {
            return true;
        }
        String key = Arrays.toString(clubs) + ahead;
        Boolean known = memo.get(key);
        if (known != null) {
            return known;
        }
        boolean can = false;
        for (int c = 0; c < 10 && !can; c++) {
            if (c != ahead && clubs[c] > 0) {
                clubs[c]--;
                can = canFollow(clubs, left - 1, c, memo);
                clubs[c]++;
            }
        }
        memo.put(key, can);
        return can;
    }

    int best(int course, int within) {
        need(course >= 0 && course < courses.size());
        needArgument(within >= 0);
        Course c = courses.get(course);
        if (!c.free) {
            return -1;
        }
        List<Post> its = c.elements.stream().map(e -> posts.get(e[0])).toList();
        int n = its.size();
        int[][] leg = new int[n + 1][n + 1];
        for (int to = 0; to <= n; to++) {
            int[][][] d = to == n ? distances(fx, fy) : distances(its.get(to).x, its.get(to).y);
            for (int from = 0; from <= n; from++) {
                int[] it = from == n ? d[sx][sy] : d[its.get(from).x][its.get(from).y];
                leg[from][to] = it == null ? -1 : it[0];
            }
        }
        int[] found = null;
        for (int set = 0; set < 1 << n; set++) {
            int s = fewest(set, n, leg, n, new HashMap<>());
            if (s < 0 || s > within) {
                continue;
            }
            int sum = 0;
            for (int i = 0; i < n; i++) {
                sum += (set >> i & 1) * its.get(i).points;
            }
            if (found == null || sum > found[0] || sum == found[0] && s < found[1]) {
                found = new int[] {sum, s, set};
            }
        }
        if (found == null) {
            return -1;
        }
        keptBest = found;
        return found[0];
    }

    /** Fewest seconds from a place by all of a set to the finish, in any order; -1 if it can't be. */
    private int fewest(int set, int from, int[][] leg, int n, Map<Integer, Integer> memo) {
        if (set == 0) {
            return leg[from][n];
        }
        Integer known = memo.get(set * 16 + from);
        if (known != null) {
            return known;
        }
        int least = -1;
        for (int next = 0; next < n; next++) {
            if ((set >> next & 1) == 1 && leg[from][next] >= 0) {
                int rest = fewest(set & ~(1 << next), next, leg, n, memo);
                if (rest >= 0 && (least < 0 || leg[from][next] + rest < least)) {
                    least = leg[from][next] + rest;
                }
            }
        }
        memo.put(set * 16 + from, least);
        return least;
    }

    int bestOf(int what) {
        need((what == 0 || what == 1) && keptBest != null);
        return keptBest[2 - what];
    }

    int track(int runner, int n) {
        needRunner(runner);
        String text = takeTape(n);
        int x = sx;
        int y = sy;
        int sum = 0;
        List<int[]> cells = new ArrayList<>();
        cells.add(new int[] {x, y});
        for (int i = 0; i < text.length(); i++) {
            if (text.charAt(i) == ' ' || text.charAt(i) == '\n') {
                continue;
            }
            int m = "urdl".indexOf(text.charAt(i));
            int s = m < 0 ? -1 : moveSeconds(x, y, m);
            if (s < 0) {
                faultAt = i;
                return m < 0 ? -2 : -3;
            }
            sum += s;
            x += DX[m];
            y += DY[m];
            cells.add(new int[] {x, y});
        }
        faultAt = -1;
        runners.get(runner).trackSeconds = sum;
        runners.get(runner).trackCells = cells;
        return sum;
    }

    /** For tests that go along the row: 0, if there is a way that ends this leg (the last one at the finish). */
    int legEnd(int runner, int leg) {
        needRunner(runner);
        return leg <= rowOf(runner).size() && lengthOf(runner) >= 0 ? 0 : -1;
    }

    String leg(int runner, int leg) {
        List<Integer> row = rowOf(runner);
        int ax = leg == 0 ? sx : posts.get(row.get(leg - 1)).x;
        int ay = leg == 0 ? sy : posts.get(row.get(leg - 1)).y;
        int bx = leg == row.size() ? fx : posts.get(row.get(leg)).x;
        int by = leg == row.size() ? fy : posts.get(row.get(leg)).y;
        List<Integer> before = keptWay;
        way(ax, ay, bx, by);
        StringBuilder text = new StringBuilder();
        keptWay.forEach(m -> text.append("urdl".charAt(m)));
        keptWay = before;
        return text.toString();
    }

    int lost(int runner) {
        needRunner(runner);
        Runner r = runners.get(runner);
        int length = lengthOf(runner);
        if (r.trackSeconds == null || length < 0) {
            return NOTHING;
        }
        int[] end = r.trackCells.get(r.trackCells.size() - 1);
        if (end[0] != fx || end[1] != fy || !comesBy(r.trackCells, 0, rowOf(runner), 0)) {
            return NOTHING;
        }
        return r.trackSeconds - length;
    }

    /** At each cell: it serves the next post, or the track goes on. */
    private boolean comesBy(List<int[]> cells, int at, List<Integer> row, int place) {
        for (int i = at; i <= cells.size(); i++) {
            if (place == row.size()) {
                return true;
            }
            if (i == cells.size()) {
                return false;
            }
            Post p = posts.get(row.get(place));
            if (cells.get(i)[0] == p.x && cells.get(i)[1] == p.y) {
                return comesBy(cells, i, row, place + 1);
            }
        }
        return false;
    }

    int count(int what) {
        need(what >= 0 && what <= 10);
        return new int[] {now, posts.size(), courses.size(), runners.size(), teams.size(), events.size(),
            protests.size(), tape.size(), rules.param("limit"), rules.param("gap"), rules.param("window")}[what];
    }
}
