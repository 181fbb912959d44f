import java.util.ArrayList;
import java.util.List;
import java.util.Random;

/** Random runs of calls, each answer of MapRun held against that of the Oracle. */
public final class RandomRunsTest {
    private static final int[] WILD = {-1, -2, 0, 1, 2, 7, 8, 9, 10, 12, 19, 20, 21, 39, 40, 80, 81, 99, 100, 101,
        500, 999, 1000, 99999, 100000, Integer.MAX_VALUE, Integer.MIN_VALUE, Integer.MAX_VALUE - 1};

    /** An object is for 512 calls; what a run begins below this ends below that. */
    private static final int LAST_TO_BEGIN = 430;

    private final Random random;
    private final MapRun x = new MapRun();
    private final Oracle o = new Oracle();
    private final List<String> calls = new ArrayList<>();
    private final int wildness;
    private int w = 1;
    private int h = 1;

    private RandomRunsTest(long seed) {
        random = new Random(seed);
        wildness = random.nextInt(4) == 0 ? 8 : 60;
    }

    public static void main(String[] args) {
        int runs = args.length > 0 ? Integer.parseInt(args[0]) : 2500;
        long from = args.length > 1 ? Long.parseLong(args[1]) : 1;
        for (long seed = from; seed < from + runs; seed++) {
            RandomRunsTest run = new RandomRunsTest(seed);
            int before = Check.wrong();
            run.go();
            if (Check.wrong() > before) {
                System.out.println("seed " + seed + ":");
                run.calls.forEach(c -> System.out.println("  " + c));
                break;
            }
        }
        Check.end();
    }

    private void go() {
        int before = Check.wrong();
        int setUp = 20 + random.nextInt(60);
        int all = 150 + random.nextInt(200);
        land();
        for (int i = 0; i < all && calls.size() < LAST_TO_BEGIN && Check.wrong() == before; i++) {
            if (i < setUp) {
                prepare();
            } else if (i == setUp) {
                stage();
            } else if (random.nextInt(300) == 0) {
                land();
                stage();
            } else if (random.nextInt(12) == 0) {
                prepare();
            } else {
                race();
            }
        }
    }

    /** One below a bound, rarely something else. */
    private int below(int bound) {
        if (random.nextInt(wildness) == 0) {
            return WILD[random.nextInt(WILD.length)];
        }
        return bound <= 0 ? 0 : random.nextInt(bound);
    }

    private int posts() {
        return o.count(1);
    }

    private void land() {
        int side = random.nextInt(6) == 0 ? 21 : 6;
        int a = 1 + random.nextInt(side);
        int b = 1 + random.nextInt(side);
        boolean done = o.land(a, b);
        same("land(" + a + ", " + b + ")", Check.of(x.land(a, b)), Check.of(done));
        if (done) {
            w = a;
            h = b;
        }
    }

    private void same(String call, long got, long due) {
        calls.add(call + " => " + due);
        Check.same(call, got, due);
    }

    private interface Call {
        long on(boolean oracle);
    }

    private long both(String name, Call call, int... args) {
        StringBuilder text = new StringBuilder(name);
        for (int a : args) {
            text.append(' ').append(a);
        }
        long due = Check.answer(() -> call.on(true));
        same(text.toString(), Check.answer(() -> call.on(false)), due);
        return due;
    }

    private void prepare() {
        switch (random.nextInt(20)) {
            case 0, 1, 2, 3 -> cell(below(w), below(h), below(8), below(random.nextInt(3) == 0 ? 100 : 4));
            case 4 -> takes(below(9), below(random.nextBoolean() ? 100 : 4));
            case 5, 6 -> wall(below(w), below(h), 1 + below(2), random.nextInt(5) > 0);
            case 7 -> gates(below(w), below(h), below(w), below(h));
            case 8 -> ways();
            case 9, 10, 11, 12 -> post(below(w), below(h), below(100));
            case 13 -> course(random.nextInt(3) == 0);
            case 14, 15, 16 -> add(below(o.count(2)), below(posts()), below(posts()), below(posts()));
            case 17 -> {
                int a = below(posts());
                add(below(o.count(2)), a, a, below(posts()));
            }
            case 18 -> best(below(o.count(2)), below(300));
            default -> {
                if (random.nextInt(3) == 0 && o.count(2) > 0) {
                    runners();
                }
            }
        }
    }

    /** What a race needs: posts, some courses with elements, runners and teams. */
    private void stage() {
        if (random.nextInt(10) == 0) {
            return;
        }
        for (int i = 3 + random.nextInt(5); i > 0; i--) {
            post(random.nextInt(w), random.nextInt(h), random.nextInt(100));
        }
        for (int i = 1 + random.nextInt(3); i > 0; i--) {
            course(random.nextInt(3) == 0);
        }
        for (int i = 4 + random.nextInt(12); i > 0; i--) {
            int a = below(posts());
            add(below(o.count(2)), a, random.nextInt(4) == 0 ? below(posts()) : a, below(posts()));
        }
        for (int i = 1 + random.nextInt(4); i > 0; i--) {
            runners();
        }
    }

    private void cell(int a, int b, int c, int d) {
        both("cell", or -> Check.of(or ? o.cell(a, b, c, d) : x.cell(a, b, c, d)), a, b, c, d);
    }

    private void takes(int a, int b) {
        both("takes", or -> Check.of(or ? o.takes(a, b) : x.takes(a, b)), a, b);
    }

    private void wall(int a, int b, int c, boolean d) {
        both("wall", or -> Check.of(or ? o.wall(a, b, c, d) : x.wall(a, b, c, d)), a, b, c, d ? 1 : 0);
    }

    private void gates(int a, int b, int c, int d) {
        both("gates", or -> Check.of(or ? o.gates(a, b, c, d) : x.gates(a, b, c, d)), a, b, c, d);
    }

    private void ways() {
        int a = below(w);
        int b = below(h);
        int c = below(w);
        int d = below(h);
        both("way", or -> or ? o.way(a, b, c, d) : x.way(a, b, c, d), a, b, c, d);
        both("many", or -> or ? o.many(a, b, c, d) : x.many(a, b, c, d), a, b, c, d);
        long moves = both("move", or -> or ? o.move(-1) : x.move(-1), -1);
        for (int i = 0; i < Math.min(moves + 1, 5); i++) {
            int m = below((int) moves);
            both("move", or -> or ? o.move(m) : x.move(m), m);
        }
    }

    private void post(int a, int b, int c) {
        both("post", or -> or ? o.post(a, b, c) : x.post(a, b, c), a, b, c);
    }

    private void course(boolean free) {
        both("course", or -> or ? o.course(free) : x.course(free), free ? 1 : 0);
    }

    private void add(int a, int b, int c, int d) {
        both("add", or -> or ? o.add(a, b, c, d) : x.add(a, b, c, d), a, b, c, d);
    }

    private void runners() {
        int course = below(o.count(2));
        int first = o.count(3);
        int many = random.nextInt(3) == 0 ? 3 : 1 + random.nextInt(7);
        int clubs = 1 + random.nextInt(4);
        int base = random.nextInt(81);
        for (int i = 0; i < many; i++) {
            int club = below(clubs);
            // each digit goes on by one, so that three in a row can be a team
            int variant = 0;
            for (int p = 1; p < 81; p *= 3) {
                variant += p * ((base / p + i) % 3);
            }
            int v = random.nextInt(4) == 0 ? below(81) : variant;
            both("runner", or -> or ? o.runner(course, club, v) : x.runner(course, club, v), course, club, v);
        }
        if (many >= 3 && random.nextInt(3) > 0) {
            team(first, first + 1, first + 2);
        }
    }

    private void team(int a, int b, int c) {
        both("team", or -> or ? o.team(a, b, c) : x.team(a, b, c), a, b, c);
    }

    private int someone() {
        return below(o.count(3));
    }

    private int second() {
        int now = o.count(0);
        return random.nextInt(3) == 0 ? below(now + 1) : now;
    }

    private void race() {
        switch (random.nextInt(24)) {
            case 0, 1 -> {
                int n = below(random.nextInt(20) == 0 ? 99999 : 40);
                both("go", or -> or ? o.go(n) : x.go(n), n);
            }
            case 2 -> event(0, someone(), below(posts()), Math.max(-1, o.count(0) + below(5) - 3));
            case 3, 4 -> event(below(3), someone(), below(posts()), below(o.count(0) + 1));
            case 5, 6, 7 -> punches(someone());
            case 8 -> relay();
            case 9, 10 -> event(2, someone(), 0, o.count(0) - below(5));
            case 11 -> {
                int e = below(o.count(5));
                both("back", or -> Check.of(or ? o.back(e) : x.back(e)), e);
            }
            case 12, 13 -> judgedAll();
            case 14 -> ofTeam();
            case 15 -> rules();
            case 16 -> protest();
            case 17 -> draw();
            case 18, 19 -> track();
            case 20 -> {
                int what = below(11);
                both("count", or -> or ? o.count(what) : x.count(what), what);
            }
            case 21 -> row();
            case 22 -> team(someone(), someone(), someone());
            default -> best(below(o.count(2)), below(300));
        }
    }

    private long event(int a, int b, int c, int d) {
        return both("event", or -> or ? o.event(a, b, c, d) : x.event(a, b, c, d), a, b, c, d);
    }

    /** A whole row, with faults, from its start to its finish. */
    private void punches(int runner) {
        if (Check.answer(() -> o.row(runner, 0)) < 0) {
            return;
        }
        int now = o.count(0);
        if (random.nextBoolean()) {
            event(0, runner, 0, random.nextInt(now + 1));
        }
        int t = random.nextInt(now + 1);
        for (int i = 0; i < o.row(runner, -1); i++) {
            t = Math.min(now, t + random.nextInt(8));
            int post = random.nextInt(6) == 0 ? below(posts()) : o.row(runner, i);
            if (random.nextInt(9) > 0) {
                event(1, runner, post, random.nextInt(8) == 0 ? random.nextInt(now + 1) : t);
            }
        }
        if (random.nextInt(3) > 0) {
            event(2, runner, 0, now);
        }
    }

    /** Three that run one after another, as teams do. */
    private void relay() {
        int first = someone();
        for (int leg = 0; leg < 3; leg++) {
            int runner = first + leg;
            int now = o.count(0);
            if (Check.answer(() -> o.row(runner, -1)) < 0) {
                return;
            }
            if (leg == 0) {
                event(0, runner, 0, random.nextInt(now + 1));
            }
            for (int i = 0; i < o.row(runner, -1); i++) {
                event(1, runner, o.row(runner, i), now);
            }
            event(2, runner, 0, now);
            int n = random.nextInt(9);
            both("go", or -> or ? o.go(n) : x.go(n), n);
        }
        int k = o.count(0);
        for (int t = 0; t < o.count(4); t++) {
            int team = t;
            both("ofTeam", or -> or ? o.ofTeam(team, 0, k) : x.ofTeam(team, 0, k), team, 0, k);
            both("ofTeam", or -> or ? o.ofTeam(team, 1, k) : x.ofTeam(team, 1, k), team, 1, k);
        }
    }

    private void judgedAll() {
        int runner = someone();
        int k = second();
        for (int i = 0; i < 9; i++) {
            int what = random.nextInt(40) == 0 ? below(9) : i;
            both("judged", or -> or ? o.judged(runner, what, k) : x.judged(runner, what, k), runner, what, k);
        }
        for (int i = 0; i < 3; i++) {
            int place = below(6);
            both("split", or -> or ? o.split(runner, place, k) : x.split(runner, place, k), runner, place, k);
        }
    }

    private void ofTeam() {
        int team = below(o.count(4));
        int k = second();
        int what = below(2);
        both("ofTeam", or -> or ? o.ofTeam(team, what, k) : x.ofTeam(team, what, k), team, what, k);
    }

    private void feed(String text) {
        for (int i = 0; i < text.length(); i += 20) {
            int a = Check.number(text, i);
            int b = Check.number(text, i + 4);
            int c = Check.number(text, i + 8);
            int d = Check.number(text, i + 12);
            int e = Check.number(text, i + 16);
            both("feed", or -> or ? o.feed(a, b, c, d, e) : x.feed(a, b, c, d, e), a, b, c, d, e);
        }
    }

    private void rules() {
        String text = new RandomRules(random).text();
        feed(text);
        calls.add("-- " + text.replace('\n', '~'));
        int n = random.nextInt(12) == 0 ? below(o.count(7) + 1) : Math.min(text.length(), o.count(7));
        both("rules", or -> or ? o.rules(n) : x.rules(n), n);
        both("fault", or -> or ? o.fault() : x.fault());
        for (int what = 7; what < 11; what++) {
            int it = what;
            both("count", or -> or ? o.count(it) : x.count(it), it);
        }
    }

    private void protest() {
        int runner = someone();
        both("protest", or -> or ? o.protest(runner) : x.protest(runner), runner);
        if (random.nextBoolean()) {
            int p = below(o.count(6));
            int how = below(3);
            int adds = random.nextInt(6) == 0 ? below(2000) - 1000 : random.nextInt(2001) - 1000;
            both("decide", or -> Check.of(or ? o.decide(p, how, adds) : x.decide(p, how, adds)), p, how, adds);
        }
    }

    private void draw() {
        int course = below(o.count(2));
        long seed = random.nextLong();
        int first = o.count(0) + below(40);
        both("draw seed " + seed, or -> or ? o.draw(course, seed, first) : x.draw(course, seed, first), course, first);
    }

    private void best(int course, int seconds) {
        if (random.nextInt(3) > 0) {
            return;
        }
        both("best", or -> or ? o.best(course, seconds) : x.best(course, seconds), course, seconds);
        both("bestOf", or -> or ? o.bestOf(0) : x.bestOf(0), 0);
        both("bestOf", or -> or ? o.bestOf(1) : x.bestOf(1), 1);
        int what = below(3);
        both("bestOf", or -> or ? o.bestOf(what) : x.bestOf(what), what);
    }

    private void track() {
        int runner = someone();
        StringBuilder text = new StringBuilder();
        int moves = random.nextInt(3) == 0 ? 0 : random.nextInt(60);
        for (int i = 0; i < moves; i++) {
            text.append("urdl".charAt(random.nextInt(4)));
            if (random.nextInt(6) == 0) {
                text.append(" \nx".charAt(random.nextInt(50) == 0 ? 2 : random.nextInt(2)));
            }
        }
        String walked = random.nextInt(4) > 0 && o.count(3) > 0 ? walk(runner) : text.toString();
        feed(walked);
        int n = random.nextInt(12) == 0 ? below(o.count(7) + 1) : Math.min(walked.length(), o.count(7));
        both("track", or -> or ? o.track(runner, n) : x.track(runner, n), runner, n);
        both("fault", or -> or ? o.fault() : x.fault());
        both("lost", or -> or ? o.lost(runner) : x.lost(runner), runner);
        int other = someone();
        both("lost", or -> or ? o.lost(other) : x.lost(other), other);
    }

    /** A track that mostly comes by the row: the least ways of a like object, sometimes with a bend. */
    private String walk(int runner) {
        StringBuilder text = new StringBuilder();
        for (int leg = 0; leg <= 12; leg++) {
            int it = leg;
            if (Check.answer(() -> o.legEnd(runner, it)) < 0) {
                break;
            }
            text.append(o.leg(runner, leg));
            if (random.nextInt(5) == 0) {
                text.append(random.nextBoolean() ? "rl" : "du");
            }
            if (random.nextInt(12) == 0) {
                text.append(' ');
            }
        }
        return text.toString();
    }

    private void row() {
        int runner = someone();
        int place = switch (random.nextInt(3)) {
            case 0 -> -1;
            case 1 -> 100;
            default -> below(12);
        };
        both("row", or -> or ? o.row(runner, place) : x.row(runner, place), runner, place);
    }
}
