import java.util.Arrays;
import java.util.Random;

/** Terms 1 in rough lands: ways held against those that are found by going over all moves till nothing changes. */
final class EdgesRough {
    private static final String TERMS = "Terms 1";
    private static final int[] DX = {0, 1, 0, -1};
    private static final int[] DY = {-1, 0, 1, 0};

    private final Random random;
    private final String name;
    private final int w;
    private final int h;
    private final MapRun x;
    private final int climb;
    /** Of each cell: 0, if it can't be entered. */
    private final int[][] seconds;
    private final int[][] height;
    /** [x][y][move] */
    private final boolean[][][] walled;
    /** To the cell that was measured last, -1 from where there is no way. */
    private final int[][] far;
    private final int[][] moves;

    private EdgesRough(int seed, int w, int h, int mostSeconds, int mostHeight, int climb) {
        random = new Random(seed);
        name = "seed " + seed + ", " + w + " by " + h + ", ";
        this.w = w;
        this.h = h;
        this.climb = climb;
        x = Make.land(w, h);
        seconds = new int[w][h];
        height = new int[w][h];
        walled = new boolean[w][h][4];
        far = new int[w][h];
        moves = new int[w][h];
        int[] takes = new int[8];
        for (int ground = 0; ground < 8; ground++) {
            takes[ground] = ground == 7 ? 0 : 1 + random.nextInt(mostSeconds);
            x.takes(ground, takes[ground]);
        }
        x.takes(8, climb);
        for (int at = 0; at < w * h; at++) {
            int ground = random.nextInt(20) == 0 ? 7 : random.nextInt(7);
            seconds[at % w][at / w] = takes[ground];
            height[at % w][at / w] = random.nextInt(mostHeight + 1);
            x.cell(at % w, at / w, ground, height[at % w][at / w]);
        }
    }

    static void all() {
        large();
        withWalls();
    }

    /** Nearly all calls that an object is for. */
    private static void large() {
        Doc.says(TERMS, "LEAST: of fewest SECONDS");
        for (int seed = 0; seed < 40; seed++) {
            EdgesRough land = new EdgesRough(seed, 20, 20, 99, 99, 2);
            int to = land.random.nextInt(400);
            land.measure(to % 20, to / 20);
            for (int from = to % 4; from < 400; from += 4) {
                Check.same(land.name + "from cell " + from, land.x.way(from % 20, from / 20, to % 20, to / 20),
                        land.far[from % 20][from / 20]);
            }
        }
    }

    private static void withWalls() {
        Doc.says(TERMS, "LEAST: of fewest SECONDS, of like ones of fewest MOVES, of like ones the first as a row. MANY: "
                + "how many WAYS there are of fewest SECONDS");
        for (int seed = 0; seed < 60; seed++) {
            boolean alike = seed % 2 == 0;
            EdgesRough land = new EdgesRough(seed, 3 + seed % 8, 10 - seed % 7, alike ? 2 : 99, alike ? 2 : 99,
                    alike ? 1 : seed % 10);
            land.build(20);
            for (int i = 0; i < 6; i++) {
                land.goOneWay();
            }
        }
    }

    private void build(int walls) {
        for (int i = 0; i < walls; i++) {
            int ax = random.nextInt(w);
            int ay = random.nextInt(h);
            int side = 1 + random.nextInt(2);
            if (ax + DX[side] < w && ay + DY[side] < h) {
                x.wall(ax, ay, side, true);
                walled[ax][ay][side] = true;
                walled[ax + DX[side]][ay + DY[side]][(side + 2) % 4] = true;
            }
        }
    }

    private void goOneWay() {
        int fromX = random.nextInt(w);
        int fromY = random.nextInt(h);
        int toX = random.nextInt(w);
        int toY = random.nextInt(h);
        measure(toX, toY);
        String text = name + fromX + " " + fromY + " to " + toX + " " + toY;
        Check.same(text, x.way(fromX, fromY, toX, toY), far[fromX][fromY]);
        Check.same(text + ", many", x.many(fromX, fromY, toX, toY), many(fromX, fromY, new long[w][h]));
        if (far[fromX][fromY] < 0) {
            return;
        }
        Check.same(text + ", moves", x.move(-1), moves[fromX][fromY]);
        int atX = fromX;
        int atY = fromY;
        for (int i = 0; i < moves[fromX][fromY]; i++) {
            int move = 0;
            while (!isLeast(atX, atY, move)) {
                move++;
            }
            Check.same(text + ", move " + i, x.move(i), move);
            atX += DX[move];
            atY += DY[move];
        }
    }

    /** Seconds of a move, -1 if it can't be made. */
    private int secondsOf(int atX, int atY, int move) {
        int nextX = atX + DX[move];
        int nextY = atY + DY[move];
        if (nextX < 0 || nextY < 0 || nextX >= w || nextY >= h || walled[atX][atY][move] || seconds[nextX][nextY] == 0) {
            return -1;
        }
        return seconds[nextX][nextY] + climb * Math.max(0, height[nextX][nextY] - height[atX][atY]);
    }

    private void measure(int toX, int toY) {
        for (int[] column : far) {
            Arrays.fill(column, -1);
        }
        far[toX][toY] = 0;
        moves[toX][toY] = 0;
        boolean changed = true;
        while (changed) {
            changed = false;
            for (int at = 0; at < w * h * 4; at++) {
                changed |= shorten(at / 4 % w, at / 4 / w, at % 4);
            }
        }
    }

    private boolean shorten(int atX, int atY, int move) {
        int takes = secondsOf(atX, atY, move);
        if (takes < 0 || far[atX + DX[move]][atY + DY[move]] < 0) {
            return false;
        }
        int by = far[atX + DX[move]][atY + DY[move]] + takes;
        int count = moves[atX + DX[move]][atY + DY[move]] + 1;
        int now = far[atX][atY];
        if (now >= 0 && (by > now || by == now && count >= moves[atX][atY])) {
            return false;
        }
        far[atX][atY] = by;
        moves[atX][atY] = count;
        return true;
    }

    private boolean isOfFewestSeconds(int atX, int atY, int move) {
        int takes = secondsOf(atX, atY, move);
        return takes >= 0 && far[atX][atY] >= 0 && far[atX + DX[move]][atY + DY[move]] >= 0
                && far[atX + DX[move]][atY + DY[move]] + takes == far[atX][atY];
    }

    private boolean isLeast(int atX, int atY, int move) {
        return isOfFewestSeconds(atX, atY, move) && moves[atX + DX[move]][atY + DY[move]] + 1 == moves[atX][atY];
    }

    private long many(int atX, int atY, long[][] known) {
        if (far[atX][atY] <= 0) {
            return far[atX][atY] + 1;
        }
        if (known[atX][atY] == 0) {
            for (int move = 0; move < 4; move++) {
                if (isOfFewestSeconds(atX, atY, move)) {
                    known[atX][atY] += many(atX + DX[move], atY + DY[move], known);
                }
            }
        }
        return known[atX][atY];
    }
}
