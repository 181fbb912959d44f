/** Small worlds that the edges are tried in. */
final class Make {
    private Make() { }

    static MapRun land(int w, int h) {
        MapRun x = new MapRun();
        x.land(w, h);
        return x;
    }

    /** One cell, posts 0 to 4 worth 1, 2, 4, 8, 16, and course 0 by some of them. */
    static MapRun course(boolean free, int... row) {
        MapRun x = new MapRun();
        for (int i = 0; i < 5; i++) {
            x.post(0, 0, 1 << i);
        }
        x.course(free);
        for (int p : row) {
            x.add(0, p, p, p);
        }
        return x;
    }

    /** Such a course with runner 0, who started at 0; NOW is 100. */
    static MapRun race(boolean free, int... row) {
        MapRun x = course(free, row);
        x.runner(0, 0, 0);
        x.event(0, 0, 0, 0);
        x.go(100);
        return x;
    }

    /** A course in order without posts, with so many runners of clubs 0, 1 and so on. */
    static MapRun runners(int many) {
        MapRun x = new MapRun();
        x.course(false);
        for (int i = 0; i < many; i++) {
            x.runner(0, i % 10, 0);
        }
        return x;
    }

    /** A line of cells with a post on each, from the first cell to the last. */
    static MapRun line(int w) {
        MapRun x = land(w, 1);
        x.gates(0, 0, w - 1, 0);
        for (int i = 0; i < w; i++) {
            x.post(i, 0, i);
        }
        return x;
    }

    static void punch(MapRun x, int runner, int... postsAndTimes) {
        for (int i = 0; i < postsAndTimes.length; i += 2) {
            x.event(1, runner, postsAndTimes[i], postsAndTimes[i + 1]);
        }
    }
}
