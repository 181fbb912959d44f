/** Small worlds that the edges are tried in. */
final class Make {
    private Make() { }

    static MapRun land(int w, int h) {
        MapRun x = new MapRun();
        x.land(w, h);
        return x;
    }

    /** One cell, posts 0 to 4 worth 1, 2, 4, 8, 16, and course 0 by some of them. */
    static MapRun course(boolean free, int... row) {
        MapRun x = new MapRun();
        for (int i = 0; i < 5; i++) {
            x.post(0, 0, 1 << i);
        }
        x.course(free);
        for (int p : row) {
            x.add(0, p, p, p);
        }
        return x;
    }

    /** Such a course with runner 0, who started at 0; NOW is 100. */
    static MapRun race(boolean free, int... row) {
        MapRun x = course(free, row);
        x.runner(0, 0, 0);
        x.event(0, 0, 0, 0);
        x.go(100);
        return x;
    }

    /** A course in order without posts, with so many runners of clubs 0, 1 and so on. */
    static MapRun runners(int many) {
        int[] clubs = new int[many];
        for (int i = 0; i < many; i++) {
            clubs[i] = i % 10;
        }
        return clubs(clubs);
    }

    /** A line of cells with a post on each, from the first cell to the last. */
    static MapRun line(int w) {
        MapRun x = land(w, 1);
        x.gates(0, 0, w - 1, 0);
        for (int i = 0; i < w; i++) {
            x.post(i, 0, i);
        }
        return x;
    }

    /** One cell, a course in order without posts, runners of these clubs. */
    static MapRun clubs(int... clubs) {
        MapRun x = new MapRun();
        x.course(false);
        for (int c : clubs) {
            x.runner(0, c, 0);
        }
        return x;
    }

    /** A line of cells; the free course 0 by posts of these points in these cells, from a cell and back to it. */
    static MapRun freeLine(int w, int gate, int... cellsAndPoints) {
        MapRun x = land(w, 1);
        x.gates(gate, 0, gate, 0);
        x.course(true);
        for (int i = 0; i < cellsAndPoints.length; i += 2) {
            int p = x.post(cellsAndPoints[i], 0, cellsAndPoints[i + 1]);
            x.add(0, p, p, p);
        }
        return x;
    }

    /**
     * Three by three: a wall right of the start in the corner and one below (2, 0), (2, 2) barred, the middle three up;
     * the finish is (1, 0), course 0 goes in order by these cells (x and ten times y), and two runners are on it.
     */
    static MapRun square(int... cells) {
        MapRun x = land(3, 3);
        x.takes(1, 0);
        x.cell(2, 2, 1, 0);
        x.cell(1, 1, 0, 3);
        x.wall(0, 0, 1, true);
        x.wall(2, 0, 2, true);
        x.gates(0, 0, 1, 0);
        x.course(false);
        for (int c : cells) {
            int p = x.post(c % 10, c / 10, 0);
            x.add(0, p, p, p);
        }
        x.runner(0, 0, 0);
        x.runner(0, 0, 0);
        return x;
    }

    /** A runner of club 7, in order by three posts of 4 points: one kept, one punch wrong, from 10 to 40, NOW. */
    static MapRun judgedByRules() {
        MapRun x = new MapRun();
        for (int i = 0; i < 4; i++) {
            x.post(0, 0, 4);
        }
        x.course(false);
        for (int i = 0; i < 3; i++) {
            x.add(0, i, i, i);
        }
        x.runner(0, 7, 0);
        x.go(40);
        x.event(0, 0, 0, 10);
        x.event(1, 0, 0, 20);
        x.event(1, 0, 3, 20);
        x.event(2, 0, 0, 40);
        return x;
    }

    static void punch(MapRun x, int runner, int... postsAndTimes) {
        for (int i = 0; i < postsAndTimes.length; i += 2) {
            x.event(1, runner, postsAndTimes[i], postsAndTimes[i + 1]);
        }
    }
}
