import java.util.Arrays;
import java.util.NoSuchElementException;

/** Running by map: the land, its courses, the runners and how they are judged. */
public final class MapRun {
    public static final int NONE = -1;

    private static final int SIDE = 20;
    private static final int CELLS = SIDE * SIDE;
    private static final int MOVES = 4;
    private static final int GROUNDS = 8;
    private static final int CLIMB = GROUNDS;
    private static final int MOST_SECONDS = 99;
    private static final int MOST_CLIMB = 9;
    private static final int MOST_HEIGHT = 99;
    private static final int MOST_POINTS = 99;
    private static final int RIGHT = 1;
    private static final int DOWN = 2;

    private static final int MOST_POSTS = 20;
    private static final int MOST_COURSES = 8;
    private static final int MOST_ELEMENTS = 12;
    private static final int MOST_FORKS = 4;
    private static final int BRANCHES = 3;
    private static final int MOST_RUNNERS = 40;
    private static final int CLUBS = 10;
    private static final int VARIANTS = 81;
    private static final int MOST_TEAMS = 10;
    private static final int LEGS = 3;
    private static final int LENGTH_PLACE = 100;

    private static final int LAST_SECOND = 99999;
    private static final int MOST_EVENTS = 500;
    private static final int STARTS = 0;
    private static final int PUNCHES = 1;
    private static final int FINISHES = 2;
    private static final int MOST_PROTESTS = 40;
    private static final int REFUSED = 0;
    private static final int LET_COUNT = 1;
    private static final int PUT_OUT = 2;
    private static final int MOST_ADDED = 999;

    private static final int WAITS = 0;
    private static final int RUNS = 1;
    private static final int OUT = 2;
    private static final int MISSED = 3;
    private static final int COUNTS = 4;
    private static final int NOTHING = -100000;

    private static final int MOST_BYTES = 500;
    private static final int BYTES_OF_FEED = 20;
    private static final int BLANK = 32;
    private static final int LINE_END = 10;

    private static final int LIMIT = 0;
    private static final int GAP = 1;
    private static final int WINDOW = 2;
    private static final int PARAMS = 3;
    private static final int VALUES = 7;

    private final Land land = new Land();
    private final Ways ways = new Ways(land);
    private final Courses courses = new Courses();
    private final Runners runners = new Runners(courses);
    private final Log log = new Log();
    private final Rules rulebook = new Rules();
    private final Judge judge = new Judge(courses, runners, log, rulebook);
    private final Draw lots = new Draw(runners, log);
    private final Best best = new Best(land, ways, courses);
    private final int[] stops = new int[MOST_ELEMENTS];
    private final int[] tape = new int[MOST_BYTES];
    private final Reader reader = new Reader(tape);
    private int tapeSize = 0;
    private int now = 0;
    private int faultAt = NONE;

    public MapRun() {
        land.renew(1, 1);
    }

    public boolean land(int w, int h) {
        if (w < 1 || w > SIDE || h < 1 || h > SIDE) {
            return false;
        }
        land.renew(w, h);
        ways.forget();
        courses.clear();
        runners.clear();
        log.clear();
        rulebook.clear();
        best.forget();
        now = 0;
        faultAt = NONE;
        return true;
    }

    public boolean cell(int x, int y, int ground, int height) throws NoSuchElementException {
        int cell = needCell(x, y);
        if (landIsFixed() || !within(ground, 0, GROUNDS - 1) || !within(height, 0, MOST_HEIGHT)) {
            return false;
        }
        if (!land.letsIn(ground) && courses.postStandsAt(cell)) {
            return false;
        }
        land.shape(cell, ground, height);
        return true;
    }

    public boolean takes(int ground, int seconds) throws NoSuchElementException {
        if (!within(ground, 0, CLIMB)) {
            throw new NoSuchElementException("no such ground");
        }
        int most = ground == CLIMB ? MOST_CLIMB : MOST_SECONDS;
        if (landIsFixed() || !within(seconds, 0, most)) {
            return false;
        }
        if (ground != CLIMB && seconds == 0 && postStandsOn(ground)) {
            return false;
        }
        land.price(ground, seconds);
        return true;
    }

    public boolean wall(int x, int y, int side, boolean is) throws NoSuchElementException {
        int cell = needCell(x, y);
        if (landIsFixed() || (side != RIGHT && side != DOWN)) {
            return false;
        }
        if (!land.holds(side == RIGHT ? x + 1 : x, side == DOWN ? y + 1 : y)) {
            return false;
        }
        land.build(cell, side, is);
        return true;
    }

    public boolean gates(int sx, int sy, int fx, int fy) throws NoSuchElementException {
        int start = needCell(sx, sy);
        int finish = needCell(fx, fy);
        if (landIsFixed()) {
            return false;
        }
        land.start = start;
        land.finish = finish;
        return true;
    }

    public int way(int x, int y, int toX, int toY) throws NoSuchElementException {
        int from = needCell(x, y);
        int to = needCell(toX, toY);
        return ways.keepLeast(from, to);
    }

    public int move(int i) throws NoSuchElementException {
        int moves = ways.keptMoves();
        if (moves == NONE) {
            throw new NoSuchElementException("no way is kept");
        }
        if (i == NONE) {
            return moves;
        }
        if (i < 0 || i >= moves) {
            throw new NoSuchElementException("no such move");
        }
        return ways.keptMove(i);
    }

    public long many(int x, int y, int toX, int toY) throws NoSuchElementException {
        int from = needCell(x, y);
        int to = needCell(toX, toY);
        return ways.howMany(from, to);
    }

    public int post(int x, int y, int points) throws NoSuchElementException {
        int cell = needCell(x, y);
        if (courses.posts() >= MOST_POSTS || !within(points, 0, MOST_POINTS) || !land.canEnter(cell)) {
            return NONE;
        }
        return courses.setPost(cell, points);
    }

    public int course(boolean free) {
        if (courses.size() >= MOST_COURSES) {
            return NONE;
        }
        return courses.open(free);
    }

    public int add(int course, int a, int b, int c) throws NoSuchElementException {
        needCourse(course);
        needPost(a);
        needPost(b);
        needPost(c);
        if (courses.elements(course) >= MOST_ELEMENTS || courses.isTaken(course)) {
            return NONE;
        }
        if (b != a && (courses.isFree(course) || courses.forks(course) >= MOST_FORKS)) {
            return NONE;
        }
        return courses.lengthen(course, a, b, c);
    }

    public int runner(int course, int club, int variant) throws NoSuchElementException {
        needCourse(course);
        if (runners.size() >= MOST_RUNNERS || !within(club, 0, CLUBS - 1) || !within(variant, 0, VARIANTS - 1)) {
            return NONE;
        }
        return runners.enter(course, club, variant);
    }

    public int row(int runner, int place) throws NoSuchElementException {
        needRunner(runner);
        if (place == NONE) {
            return runners.rowSize(runner);
        }
        if (place == LENGTH_PLACE) {
            return lengthOf(runner);
        }
        needPlace(runner, place);
        runners.fillPosts(runner, stops);
        return stops[place];
    }

    public int team(int a, int b, int c) throws NoSuchElementException {
        needRunner(a);
        needRunner(b);
        needRunner(c);
        if (runners.teams() >= MOST_TEAMS || !runners.canBeTeam(a, b, c)) {
            return NONE;
        }
        return runners.join(a, b, c);
    }

    public int go(int n) throws IllegalArgumentException {
        if (n < 0 || n > LAST_SECOND - now) {
            throw new IllegalArgumentException("no such time");
        }
        now += n;
        return now;
    }

    public int event(int kind, int runner, int post, int t) throws NoSuchElementException {
        if (!within(kind, STARTS, FINISHES)) {
            throw new NoSuchElementException("no such kind");
        }
        needRunner(runner);
        if (kind == PUNCHES) {
            needPost(post);
        }
        int latest = kind == STARTS ? LAST_SECOND : now;
        if (log.events() >= MOST_EVENTS || !within(t, 0, latest)) {
            return NONE;
        }
        return log.tell(kind, runner, post, t, now);
    }

    public boolean back(int event) throws NoSuchElementException {
        if (event < 0 || event >= log.events()) {
            throw new NoSuchElementException("no such event");
        }
        return log.takeBack(event, now);
    }

    public int judged(int runner, int what, int k) throws NoSuchElementException, IllegalArgumentException {
        needRunner(runner);
        if (!within(what, 0, 8)) {
            throw new NoSuchElementException("no such question");
        }
        needSecond(k);
        if (what == 8) {
            return judge.placeOf(runner, k);
        }
        judge.look(runner, k);
        return judge.answer(what);
    }

    public int split(int runner, int place, int k) throws NoSuchElementException, IllegalArgumentException {
        needRunner(runner);
        needPlace(runner, place);
        needSecond(k);
        return judge.splitOf(runner, place, k);
    }

    public int ofTeam(int team, int what, int k) throws NoSuchElementException, IllegalArgumentException {
        if (team < 0 || team >= runners.teams()) {
            throw new NoSuchElementException("no such team");
        }
        if (!within(what, 0, 1)) {
            throw new NoSuchElementException("no such question");
        }
        needSecond(k);
        if (what == 1) {
            return judge.placeOfTeam(team, k);
        }
        return judge.lookAtTeam(team, k) ? judge.teamTime() : NOTHING;
    }

    public int feed(int a, int b, int c, int d, int e) {
        if (tapeSize > MOST_BYTES - BYTES_OF_FEED) {
            return NONE;
        }
        putOnTape(a);
        putOnTape(b);
        putOnTape(c);
        putOnTape(d);
        putOnTape(e);
        return tapeSize;
    }

    public int rules(int n) throws IllegalArgumentException {
        needBytes(n);
        int fault = reader.read(n);
        tapeSize = 0;
        faultAt = reader.faultAt();
        if (fault == 0) {
            rulebook.adopt(reader);
        }
        return fault;
    }

    public int fault() {
        return faultAt;
    }

    public int protest(int runner) throws NoSuchElementException {
        needRunner(runner);
        int finish = log.latest(FINISHES, runner, now);
        if (log.protests() >= MOST_PROTESTS || finish == NONE) {
            return NONE;
        }
        if (now - log.toldAt(finish) > rulebook.param(WINDOW)) {
            return NONE;
        }
        return log.accuse(runner);
    }

    public boolean decide(int protest, int how, int adds) throws NoSuchElementException {
        if (protest < 0 || protest >= log.protests()) {
            throw new NoSuchElementException("no such protest");
        }
        if (!within(how, REFUSED, PUT_OUT) || !within(adds, -MOST_ADDED, MOST_ADDED)) {
            return false;
        }
        return log.settle(protest, how, adds, now);
    }

    public int draw(int course, long seed, int first) throws NoSuchElementException {
        needCourse(course);
        if (!within(first, now, LAST_SECOND)) {
            return NONE;
        }
        int starters = lots.gather(course, now);
        int gap = rulebook.param(GAP);
        if (starters > MOST_EVENTS - log.events() || first + (starters - 1) * gap > LAST_SECOND) {
            return NONE;
        }
        if (!lots.arrange(seed)) {
            return NONE;
        }
        for (int i = 0; i < starters; i++) {
            log.tell(STARTS, lots.drawn(i), NONE, first + i * gap, now);
        }
        return starters;
    }

    public int best(int course, int seconds) throws NoSuchElementException, IllegalArgumentException {
        needCourse(course);
        if (seconds < 0) {
            throw new IllegalArgumentException("seconds below 0");
        }
        if (!courses.isFree(course)) {
            return NONE;
        }
        return best.search(course, seconds);
    }

    public int bestOf(int what) throws NoSuchElementException {
        if (!within(what, 0, 1) || !best.isKept()) {
            throw new NoSuchElementException("no such answer");
        }
        return what == 0 ? best.keptSet() : best.keptSeconds();
    }

    public int track(int runner, int n) throws NoSuchElementException, IllegalArgumentException {
        needRunner(runner);
        needBytes(n);
        int count = fillStops(runner);
        int answer = ways.walk(tape, n, stops, count);
        tapeSize = 0;
        faultAt = ways.walkFaultAt();
        if (faultAt == NONE) {
            runners.keepTrack(runner, ways.walkCameBy() ? answer : NONE);
        }
        return answer;
    }

    public int lost(int runner) throws NoSuchElementException {
        needRunner(runner);
        int seconds = runners.trackSeconds(runner);
        if (seconds == NONE) {
            return NOTHING;
        }
        int length = lengthOf(runner);
        return length == NONE ? NOTHING : seconds - length;
    }

    public int count(int what) throws NoSuchElementException {
        switch (what) {
            case 0: return now;
            case 1: return courses.posts();
            case 2: return courses.size();
            case 3: return runners.size();
            case 4: return runners.teams();
            case 5: return log.events();
            case 6: return log.protests();
            case 7: return tapeSize;
            case 8: return rulebook.param(LIMIT);
            case 9: return rulebook.param(GAP);
            case 10: return rulebook.param(WINDOW);
            default: throw new NoSuchElementException("no such count");
        }
    }

    private static boolean within(int number, int least, int most) {
        return number >= least && number <= most;
    }

    private boolean landIsFixed() {
        return runners.size() > 0;
    }

    private boolean postStandsOn(int ground) {
        for (int i = 0; i < courses.posts(); i++) {
            if (land.groundAt(courses.cellOf(i)) == ground) {
                return true;
            }
        }
        return false;
    }

    private int lengthOf(int runner) {
        int count = fillStops(runner);
        return ways.through(stops, count);
    }

    /** The cells of a runner's row: how many. */
    private int fillStops(int runner) {
        int count = runners.fillPosts(runner, stops);
        for (int i = 0; i < count; i++) {
            stops[i] = courses.cellOf(stops[i]);
        }
        return count;
    }

    private void putOnTape(int number) {
        for (int shift = 24; shift >= 0 && tapeSize < MOST_BYTES; shift -= 8) {
            tape[tapeSize] = (number >>> shift) & 255;
            tapeSize++;
        }
    }

    private int needCell(int x, int y) {
        if (!land.holds(x, y)) {
            throw new NoSuchElementException("no such cell");
        }
        return y * SIDE + x;
    }

    private void needCourse(int course) {
        if (course < 0 || course >= courses.size()) {
            throw new NoSuchElementException("no such course");
        }
    }

    private void needPost(int post) {
        if (post < 0 || post >= courses.posts()) {
            throw new NoSuchElementException("no such post");
        }
    }

    private void needRunner(int runner) {
        if (runner < 0 || runner >= runners.size()) {
            throw new NoSuchElementException("no such runner");
        }
    }

    private void needPlace(int runner, int place) {
        if (place < 0 || place >= runners.rowSize(runner)) {
            throw new NoSuchElementException("no such place");
        }
    }

    private void needSecond(int k) {
        if (k < 0 || k > now) {
            throw new IllegalArgumentException("no such second");
        }
    }

    private void needBytes(int n) {
        if (n < 0 || n > tapeSize) {
            throw new IllegalArgumentException("the tape has not so many bytes");
        }
    }

    /** Cells are numbered y * SIDE + x, whatever the width, so that no divisor depends on the land. */
    private static final class Land {
        private final int[] ground = new int[CELLS];
        private final int[] height = new int[CELLS];
        private final boolean[] wallRight = new boolean[CELLS];
        private final boolean[] wallDown = new boolean[CELLS];
        /** Seconds of each ground, and the climb behind them. */
        private final int[] prices = new int[GROUNDS + 1];
        private int w = 1;
        private int h = 1;
        int start = 0;
        int finish = 0;

        void renew(int width, int depth) {
            w = width;
            h = depth;
            start = 0;
            finish = 0;
            Arrays.fill(ground, 0);
            Arrays.fill(height, 0);
            for (int i = 0; i < CELLS; i++) {
                wallRight[i] = false;
                wallDown[i] = false;
            }
            Arrays.fill(prices, 5);
            prices[CLIMB] = 2;
        }

        boolean holds(int x, int y) {
            return x >= 0 && x < w && y >= 0 && y < h;
        }

        void shape(int cell, int newGround, int newHeight) {
            ground[cell] = newGround;
            height[cell] = newHeight;
        }

        void price(int what, int seconds) {
            prices[what] = seconds;
        }

        void build(int cell, int side, boolean is) {
            if (side == RIGHT) {
                wallRight[cell] = is;
            } else {
                wallDown[cell] = is;
            }
        }

        int groundAt(int cell) {
            return ground[cell];
        }

        boolean letsIn(int ofGround) {
            return prices[ofGround] > 0;
        }

        boolean canEnter(int cell) {
            return letsIn(ground[cell]);
        }

        /** The cell that a move leads to, NONE at the edge and at a wall; whether it can be entered is not asked. */
        int beside(int cell, int move) {
            int x = cell % SIDE;
            int y = cell / SIDE;
            switch (move) {
                case 0: return y > 0 && !wallDown[cell - SIDE] ? cell - SIDE : NONE;
                case 1: return x < w - 1 && !wallRight[cell] ? cell + 1 : NONE;
                case 2: return y < h - 1 && !wallDown[cell] ? cell + SIDE : NONE;
                case 3: return x > 0 && !wallRight[cell - 1] ? cell - 1 : NONE;
                default: return NONE;
            }
        }

        int secondsOf(int from, int to) {
            int rise = height[to] - height[from];
            return prices[ground[to]] + (rise > 0 ? rise * prices[CLIMB] : 0);
        }
    }

    /** Least ways, measured backwards from where they end so that their first moves can be chosen in order. */
    private static final class Ways {
        /** Seconds and moves are one number, seconds times this and moves: no least way has so many moves. */
        private static final int SECOND = 512;
        private static final int FAR = 2000000000;
        private static final long MOST_MANY = 1000000000000L;
        private static final int NO_MOVE = -2;

        private final Land land;
        private final int[] far = new int[CELLS];
        private final int[] heap = new int[CELLS];
        private final int[] slot = new int[CELLS];
        private final int[] order = new int[CELLS];
        private final long[] many = new long[CELLS];
        private final int[] kept = new int[CELLS];
        private int heapSize = 0;
        private int settled = 0;
        private int keptSize = NONE;
        private int walkFault = NONE;
        private boolean walkCame = false;

        Ways(Land land) {
            this.land = land;
        }

        void forget() {
            keptSize = NONE;
        }

        int keptMoves() {
            return keptSize;
        }

        int keptMove(int i) {
            return kept[i];
        }

        int keepLeast(int from, int to) {
            measure(to, from);
            if (far[from] == FAR) {
                return NONE;
            }
            int cell = from;
            int moves = 0;
            while (moves < CELLS && cell != to) {
                int move = firstLeastMove(cell);
                if (move == NONE) {
                    break;
                }
                kept[moves] = move;
                moves++;
                cell = land.beside(cell, move);
            }
            keptSize = moves;
            return secondsFrom(from);
        }

        long howMany(int from, int to) {
            measure(to, from);
            if (far[from] == FAR) {
                return 0;
            }
            many[to] = 1;
            for (int i = 1; i < settled; i++) {
                many[order[i]] = manyBy(order[i]);
            }
            return many[from];
        }

        /** To the cell that was measured last. */
        int secondsFrom(int cell) {
            return far[cell] == FAR ? NONE : far[cell] / SECOND;
        }

        /** Seconds from the start by these cells in order to the finish. */
        int through(int[] cells, int count) {
            int sum = 0;
            int from = land.start;
            for (int i = 0; i <= count; i++) {
                int to = i < count ? cells[i] : land.finish;
                measure(to, from);
                int leg = secondsFrom(from);
                if (leg == NONE) {
                    return NONE;
                }
                sum += leg;
                from = to;
            }
            return sum;
        }

        /** Goes a track from the start: its seconds, or - 1 - its fault. */
        int walk(int[] text, int size, int[] cells, int count) {
            walkFault = NONE;
            int cell = land.start;
            int met = passed(cell, cells, 0, count);
            int sum = 0;
            for (int i = 0; i < size; i++) {
                int move = moveOf(text[i]);
                if (move == NO_MOVE) {
                    continue;
                }
                int next = move == NONE ? NONE : land.beside(cell, move);
                if (next == NONE || !land.canEnter(next)) {
                    walkFault = i;
                    return move == NONE ? -2 : -3;
                }
                sum += land.secondsOf(cell, next);
                cell = next;
                met = passed(cell, cells, met, count);
            }
            walkCame = met == count && cell == land.finish;
            return sum;
        }

        int walkFaultAt() {
            return walkFault;
        }

        boolean walkCameBy() {
            return walkCame;
        }

        private static int passed(int cell, int[] cells, int met, int count) {
            int next = met;
            while (next < count && cells[next] == cell) {
                next++;
            }
            return next;
        }

        private static int moveOf(int sign) {
            switch (sign) {
                case 'u': return 0;
                case 'r': return 1;
                case 'd': return 2;
                case 'l': return 3;
                case BLANK: return NO_MOVE;
                case LINE_END: return NO_MOVE;
                default: return NONE;
            }
        }

        /** How far it is to a cell from all others, or from those that are no farther than one of them. */
        void measure(int to, int until) {
            Arrays.fill(far, FAR);
            Arrays.fill(slot, NONE);
            heapSize = 0;
            settled = 0;
            offer(to, 0);
            while (settled < CELLS && heapSize > 0) {
                int cell = takeNearest();
                order[settled] = cell;
                settled++;
                if (cell == until) {
                    break;
                }
                if (land.canEnter(cell)) {
                    offerAround(cell);
                }
            }
        }

        private void offerAround(int cell) {
            for (int move = 0; move < MOVES; move++) {
                int from = land.beside(cell, move);
                if (from != NONE) {
                    offer(from, far[cell] + land.secondsOf(from, cell) * SECOND + 1);
                }
            }
        }

        private int firstLeastMove(int cell) {
            for (int move = 0; move < MOVES; move++) {
                int next = land.beside(cell, move);
                if (next != NONE && land.canEnter(next) && far[next] < far[cell]
                        && far[next] + land.secondsOf(cell, next) * SECOND + 1 == far[cell]) {
                    return move;
                }
            }
            return NONE;
        }

        private long manyBy(int cell) {
            long sum = 0;
            for (int move = 0; move < MOVES; move++) {
                int next = land.beside(cell, move);
                if (next != NONE && land.canEnter(next) && far[next] < far[cell]
                        && far[next] / SECOND + land.secondsOf(cell, next) == far[cell] / SECOND) {
                    sum += many[next];
                }
            }
            return Math.min(sum, MOST_MANY);
        }

        private void offer(int cell, int key) {
            if (key >= far[cell]) {
                return;
            }
            far[cell] = key;
            if (slot[cell] == NONE) {
                slot[cell] = heapSize;
                heapSize++;
            }
            rise(cell, slot[cell]);
        }

        private void rise(int cell, int from) {
            int at = from;
            while (at > 0 && far[heap[(at - 1) / 2]] > far[cell]) {
                int up = (at - 1) / 2;
                heap[at] = heap[up];
                slot[heap[at]] = at;
                at = up;
            }
            heap[at] = cell;
            slot[cell] = at;
        }

        private int takeNearest() {
            int nearest = heap[0];
            heapSize--;
            if (heapSize > 0) {
                sink(heap[heapSize]);
            }
            return nearest;
        }

        private void sink(int cell) {
            int at = 0;
            int child = lesserChild(0);
            while (child < heapSize && far[heap[child]] < far[cell]) {
                heap[at] = heap[child];
                slot[heap[at]] = at;
                at = child;
                child = lesserChild(at);
            }
            heap[at] = cell;
            slot[cell] = at;
        }

        private int lesserChild(int at) {
            int child = 2 * at + 1;
            if (child + 1 < heapSize && far[heap[child + 1]] < far[heap[child]]) {
                child++;
            }
            return child;
        }
    }

    private static final class Courses {
        private final int[] postCells = new int[MOST_POSTS];
        private final int[] postPoints = new int[MOST_POSTS];
        private final boolean[] free = new boolean[MOST_COURSES];
        private final boolean[] taken = new boolean[MOST_COURSES];
        private final int[] sizes = new int[MOST_COURSES];
        private final int[] forks = new int[MOST_COURSES];
        private final int[] branches = new int[MOST_COURSES * MOST_ELEMENTS * BRANCHES];
        private int posts = 0;
        private int size = 0;

        void clear() {
            posts = 0;
            size = 0;
        }

        int posts() {
            return posts;
        }

        int setPost(int cell, int points) {
            postCells[posts] = cell;
            postPoints[posts] = points;
            posts++;
            return posts - 1;
        }

        int cellOf(int post) {
            return postCells[post];
        }

        int pointsOf(int post) {
            return postPoints[post];
        }

        boolean postStandsAt(int cell) {
            for (int i = 0; i < posts; i++) {
                if (postCells[i] == cell) {
                    return true;
                }
            }
            return false;
        }

        int size() {
            return size;
        }

        int open(boolean isFree) {
            free[size] = isFree;
            taken[size] = false;
            sizes[size] = 0;
            forks[size] = 0;
            size++;
            return size - 1;
        }

        boolean isFree(int course) {
            return free[course];
        }

        boolean isTaken(int course) {
            return taken[course];
        }

        void take(int course) {
            taken[course] = true;
        }

        int elements(int course) {
            return sizes[course];
        }

        int forks(int course) {
            return forks[course];
        }

        int lengthen(int course, int a, int b, int c) {
            int at = (course * MOST_ELEMENTS + sizes[course]) * BRANCHES;
            branches[at] = a;
            branches[at + 1] = b;
            branches[at + 2] = c;
            if (b != a) {
                forks[course]++;
            }
            sizes[course]++;
            return sizes[course];
        }

        /** The posts of a variant's row: how many. */
        int fillRow(int course, int variant, int[] row) {
            int digits = variant;
            for (int i = 0; i < sizes[course]; i++) {
                int at = (course * MOST_ELEMENTS + i) * BRANCHES;
                row[i] = branches[at];
                if (branches[at + 1] != branches[at]) {
                    row[i] = branches[at + digits % BRANCHES];
                    digits /= BRANCHES;
                }
            }
            return sizes[course];
        }
    }

    private static final class Runners {
        private final Courses courses;
        private final int[] course = new int[MOST_RUNNERS];
        private final int[] clubs = new int[MOST_RUNNERS];
        private final int[] variants = new int[MOST_RUNNERS];
        private final int[] tracks = new int[MOST_RUNNERS];
        /** The one that runs ahead in the team; NONE for the first and for those in no team. */
        private final int[] ahead = new int[MOST_RUNNERS];
        private final boolean[] inTeam = new boolean[MOST_RUNNERS];
        private final int[] members = new int[MOST_TEAMS * LEGS];
        private int size = 0;
        private int teams = 0;

        Runners(Courses courses) {
            this.courses = courses;
        }

        void clear() {
            size = 0;
            teams = 0;
        }

        int size() {
            return size;
        }

        int teams() {
            return teams;
        }

        int enter(int ofCourse, int club, int variant) {
            course[size] = ofCourse;
            clubs[size] = club;
            variants[size] = variant;
            tracks[size] = NONE;
            ahead[size] = NONE;
            inTeam[size] = false;
            courses.take(ofCourse);
            size++;
            return size - 1;
        }

        int courseOf(int runner) {
            return course[runner];
        }

        int clubOf(int runner) {
            return clubs[runner];
        }

        boolean runsFree(int runner) {
            return courses.isFree(course[runner]);
        }

        int rowSize(int runner) {
            return courses.elements(course[runner]);
        }

        int fillPosts(int runner, int[] row) {
            return courses.fillRow(course[runner], variants[runner], row);
        }

        /** Seconds of the latest track, NONE where it does not come by the row. */
        void keepTrack(int runner, int seconds) {
            tracks[runner] = seconds;
        }

        int trackSeconds(int runner) {
            return tracks[runner];
        }

        int aheadOf(int runner) {
            return ahead[runner];
        }

        int member(int team, int leg) {
            return members[team * LEGS + leg];
        }

        int courseOfTeam(int team) {
            return course[member(team, 0)];
        }

        boolean canBeTeam(int a, int b, int c) {
            if (a == b || b == c || a == c || inTeam[a] || inTeam[b] || inTeam[c]) {
                return false;
            }
            if (course[a] != course[b] || course[b] != course[c] || runsFree(a)) {
                return false;
            }
            int digitsA = variants[a];
            int digitsB = variants[b];
            int digitsC = variants[c];
            int forks = courses.forks(course[a]);
            for (int i = 0; i < forks; i++) {
                int branchA = digitsA % BRANCHES;
                int branchB = digitsB % BRANCHES;
                int branchC = digitsC % BRANCHES;
                if (branchA == branchB || branchB == branchC || branchA == branchC) {
                    return false;
                }
                digitsA /= BRANCHES;
                digitsB /= BRANCHES;
                digitsC /= BRANCHES;
            }
            return true;
        }

        int join(int a, int b, int c) {
            members[teams * LEGS] = a;
            members[teams * LEGS + 1] = b;
            members[teams * LEGS + 2] = c;
            inTeam[a] = true;
            inTeam[b] = true;
            inTeam[c] = true;
            ahead[b] = a;
            ahead[c] = b;
            teams++;
            return teams - 1;
        }
    }

    /** What was told and decided, each with its second, so that it can be asked as it was known at any. */
    private static final class Log {
        private final int[] kinds = new int[MOST_EVENTS];
        private final int[] who = new int[MOST_EVENTS];
        private final int[] where = new int[MOST_EVENTS];
        private final int[] times = new int[MOST_EVENTS];
        private final int[] told = new int[MOST_EVENTS];
        private final int[] takenBack = new int[MOST_EVENTS];
        private int events = 0;
        private final int[] accused = new int[MOST_PROTESTS];
        private final int[] verdicts = new int[MOST_PROTESTS];
        private final int[] added = new int[MOST_PROTESTS];
        private final int[] decided = new int[MOST_PROTESTS];
        /** Several may be decided in one second: their order tells which was last. */
        private final int[] turns = new int[MOST_PROTESTS];
        private int protests = 0;
        private int decisions = 0;

        void clear() {
            events = 0;
            protests = 0;
            decisions = 0;
        }

        int events() {
            return events;
        }

        int tell(int kind, int runner, int post, int t, int now) {
            kinds[events] = kind;
            who[events] = runner;
            where[events] = post;
            times[events] = t;
            told[events] = now;
            takenBack[events] = NONE;
            events++;
            return events - 1;
        }

        boolean takeBack(int event, int now) {
            if (takenBack[event] != NONE) {
                return false;
            }
            takenBack[event] = now;
            return true;
        }

        boolean isKnown(int event, int kind, int runner, int k) {
            return kinds[event] == kind && who[event] == runner && told[event] <= k
                    && (takenBack[event] == NONE || takenBack[event] > k);
        }

        /** The number of the latest told event of a kind. */
        int latest(int kind, int runner, int k) {
            for (int i = events - 1; i >= 0; i--) {
                if (isKnown(i, kind, runner, k)) {
                    return i;
                }
            }
            return NONE;
        }

        /** NONE of no event. */
        int timeOf(int event) {
            return event == NONE ? NONE : times[event];
        }

        int postOf(int event) {
            return where[event];
        }

        int toldAt(int event) {
            return told[event];
        }

        int protests() {
            return protests;
        }

        int accuse(int runner) {
            accused[protests] = runner;
            decided[protests] = NONE;
            protests++;
            return protests - 1;
        }

        boolean settle(int protest, int how, int adds, int now) {
            if (decided[protest] != NONE) {
                return false;
            }
            verdicts[protest] = how;
            added[protest] = adds;
            decided[protest] = now;
            turns[protest] = decisions;
            decisions++;
            return true;
        }

        /** What the protest decided last says, REFUSED where there is none. */
        int verdictOn(int runner, int k) {
            int last = NONE;
            int verdict = REFUSED;
            for (int i = 0; i < protests; i++) {
                if (isUpheld(i, runner, k) && turns[i] > last) {
                    last = turns[i];
                    verdict = verdicts[i];
                }
            }
            return verdict;
        }

        int addedTo(int runner, int k) {
            int sum = 0;
            for (int i = 0; i < protests; i++) {
                if (isUpheld(i, runner, k)) {
                    sum += added[i];
                }
            }
            return sum;
        }

        private boolean isUpheld(int protest, int runner, int k) {
            return accused[protest] == runner && decided[protest] != NONE && decided[protest] <= k
                    && verdicts[protest] != REFUSED;
        }
    }

    /** The rules that count, as a row of codes for a stack: a number stands for itself. */
    private static final class Rules {
        static final int FIRST_VALUE = 100000;
        static final int FIRST_PARAM = FIRST_VALUE + VALUES;
        static final int NOT = FIRST_PARAM + PARAMS;
        static final int OR = NOT + 1;
        static final int AND = NOT + 2;
        static final int LESS = NOT + 3;
        static final int EQUAL = NOT + 4;
        static final int PLUS = NOT + 5;
        static final int MINUS = NOT + 6;
        static final int TIMES = NOT + 7;
        static final int OVER = NOT + 8;
        static final int UNLESS = NOT + 9;
        static final int END_PENALTY = NOT + 10;
        static final int END_OUT = NOT + 11;
        private static final int DEFAULT_LIMIT = 3600;
        private static final int DEFAULT_GAP = 60;
        private static final int DEFAULT_WINDOW = 900;
        private static final int MOST_PENALTY = 9999;
        private static final int STACK = 64;

        private final int[] codes = new int[MOST_BYTES];
        private final int[] params = {DEFAULT_LIMIT, DEFAULT_GAP, DEFAULT_WINDOW};
        private final int[] stack = new int[STACK];
        private int size = 0;
        private int top = 0;
        private int penalty = 0;
        private boolean out = false;

        static void setDefaults(int[] params) {
            params[LIMIT] = DEFAULT_LIMIT;
            params[GAP] = DEFAULT_GAP;
            params[WINDOW] = DEFAULT_WINDOW;
        }

        void clear() {
            size = 0;
            setDefaults(params);
        }

        void adopt(Reader reader) {
            size = reader.copyTo(codes, params);
        }

        int param(int which) {
            return params[which];
        }

        int penalty() {
            return penalty;
        }

        boolean out() {
            return out;
        }

        void apply(int[] values) {
            top = 0;
            penalty = 0;
            out = false;
            for (int i = 0; i < size; i++) {
                int code = codes[i];
                if (code < FIRST_VALUE) {
                    push(code);
                } else if (code < FIRST_PARAM) {
                    push(values[code - FIRST_VALUE]);
                } else if (code < NOT) {
                    push(params[code - FIRST_PARAM]);
                } else if (code == NOT) {
                    push(truth(pop() == 0));
                } else if (code >= END_PENALTY) {
                    endClause(code, pop());
                } else {
                    int second = pop();
                    push(joined(code, pop(), second));
                }
            }
        }

        private void endClause(int code, int value) {
            if (code == END_PENALTY) {
                penalty += Math.max(-MOST_PENALTY, Math.min(MOST_PENALTY, value));
            } else if (value != 0) {
                out = true;
            }
        }

        private static int joined(int code, int a, int b) {
            switch (code) {
                case OR: return truth(a != 0 || b != 0);
                case AND: return truth(a != 0 && b != 0);
                case LESS: return truth(a < b);
                case EQUAL: return truth(a == b);
                case PLUS: return a + b;
                case MINUS: return a - b;
                case TIMES: return a * b;
                case OVER: return b == 0 ? 0 : a / b;
                case UNLESS: return b != 0 ? 0 : a;
                default: return 0;
            }
        }

        private static int truth(boolean holds) {
            return holds ? 1 : 0;
        }

        private void push(int value) {
            if (top < STACK) {
                stack[top] = value;
                top++;
            }
        }

        private int pop() {
            if (top == 0) {
                return 0;
            }
            top--;
            return stack[top];
        }
    }

    /** Reads a text as rules into codes of its own, so that a fault leaves those that count alone. */
    private static final class Reader {
        private static final int END = 0;
        private static final int NO_TOKEN = 1;
        private static final int WORD = 2;
        private static final int NUMBER = 3;
        private static final int SIGN = 4;

        /** Each with a blank behind it; the numbers below are their places. Params and values stand in their order. */
        private static final String WORDS =
                "penalty out set unless or and not limit gap window missed wrong run score posts club free ";
        private static final int WORD_PENALTY = 0;
        private static final int WORD_OUT = 1;
        private static final int WORD_SET = 2;
        private static final int WORD_UNLESS = 3;
        private static final int WORD_OR = 4;
        private static final int WORD_AND = 5;
        private static final int WORD_NOT = 6;
        private static final int FIRST_PARAM_WORD = 7;
        private static final int FIRST_VALUE_WORD = FIRST_PARAM_WORD + PARAMS;

        private static final int CANT_STAND = 1;
        private static final int TOO_MUCH = 2;
        private static final int NO_SUCH_WORD = 3;
        private static final int MOST_DIGITS = 5;
        private static final int MOST_CLAUSES = 20;
        private static final int MOST_AROUND = 6;
        private static final int MOST_NOTS = 6;

        private final int[] text;
        private final int[] codes = new int[MOST_BYTES];
        private final int[] params = new int[PARAMS];
        private int textSize = 0;
        private int size = 0;
        private int kind = END;
        private int word = NONE;
        private int tokenAt = 0;
        private int tokenEnd = 0;
        private int fault = 0;
        private int faultPlace = NONE;

        Reader(int[] text) {
            this.text = text;
        }

        /** 0, or the fault; without one the codes stand ready for copyTo. */
        int read(int count) {
            textSize = count;
            size = 0;
            tokenEnd = 0;
            fault = 0;
            faultPlace = NONE;
            Rules.setDefaults(params);
            step();
            for (int i = 0; i <= MOST_CLAUSES && kind != END; i++) {
                if (!readClause(i)) {
                    break;
                }
            }
            return fault;
        }

        int faultAt() {
            return faultPlace;
        }

        int copyTo(int[] toCodes, int[] toParams) {
            System.arraycopy(codes, 0, toCodes, 0, size);
            System.arraycopy(params, 0, toParams, 0, PARAMS);
            return size;
        }

        private boolean readClause(int ahead) {
            int opening = word;
            if (opening != WORD_PENALTY && opening != WORD_OUT && opening != WORD_SET) {
                return refuse(CANT_STAND);
            }
            if (ahead >= MOST_CLAUSES) {
                return refuse(TOO_MUCH);
            }
            step();
            if (opening == WORD_SET) {
                return readSetting() && readSign(';');
            }
            if (!readOr(0)) {
                return false;
            }
            if (word == WORD_UNLESS) {
                step();
                if (!readOr(0)) {
                    return false;
                }
                emit(Rules.UNLESS);
            }
            if (!readSign(';')) {
                return false;
            }
            emit(opening == WORD_PENALTY ? Rules.END_PENALTY : Rules.END_OUT);
            return true;
        }

        private boolean readSetting() {
            if (kind != WORD) {
                return refuse(CANT_STAND);
            }
            int param = word - FIRST_PARAM_WORD;
            if (!within(param, 0, PARAMS - 1)) {
                return refuse(NO_SUCH_WORD);
            }
            step();
            if (!isNumber()) {
                return false;
            }
            params[param] = numberOfToken();
            step();
            return true;
        }

        /** An EXPR with so many others around it. */
        private boolean readOr(int around) {
            if (around >= MOST_AROUND) {
                return refuse(kind == WORD || kind == NUMBER || isSign('(') ? TOO_MUCH : CANT_STAND);
            }
            if (!readAnd(around)) {
                return false;
            }
            for (int i = 0; i < MOST_BYTES && word == WORD_OR; i++) {
                step();
                if (!readAnd(around)) {
                    return false;
                }
                emit(Rules.OR);
            }
            return true;
        }

        private boolean readAnd(int around) {
            if (!readNot(around)) {
                return false;
            }
            for (int i = 0; i < MOST_BYTES && word == WORD_AND; i++) {
                step();
                if (!readNot(around)) {
                    return false;
                }
                emit(Rules.AND);
            }
            return true;
        }

        private boolean readNot(int around) {
            int nots = 0;
            while (nots < MOST_NOTS && word == WORD_NOT) {
                nots++;
                step();
            }
            if (nots == MOST_NOTS && word == WORD_NOT) {
                return refuse(TOO_MUCH);
            }
            if (!readTest(around)) {
                return false;
            }
            for (int i = 0; i < nots; i++) {
                emit(Rules.NOT);
            }
            return true;
        }

        private boolean readTest(int around) {
            if (!readSum(around)) {
                return false;
            }
            int code = isSign('<') ? Rules.LESS : isSign('=') ? Rules.EQUAL : NONE;
            if (code != NONE) {
                step();
                if (!readSum(around)) {
                    return false;
                }
                emit(code);
            }
            return true;
        }

        private boolean readSum(int around) {
            if (!readProduct(around)) {
                return false;
            }
            for (int i = 0; i < MOST_BYTES && (isSign('+') || isSign('-')); i++) {
                int code = isSign('+') ? Rules.PLUS : Rules.MINUS;
                step();
                if (!readProduct(around)) {
                    return false;
                }
                emit(code);
            }
            return true;
        }

        private boolean readProduct(int around) {
            if (!readPart(around)) {
                return false;
            }
            for (int i = 0; i < MOST_BYTES && (isSign('*') || isSign('/')); i++) {
                int code = isSign('*') ? Rules.TIMES : Rules.OVER;
                step();
                if (!readPart(around)) {
                    return false;
                }
                emit(code);
            }
            return true;
        }

        private boolean readPart(int around) {
            if (isSign('(')) {
                step();
                return readOr(around + 1) && readSign(')');
            }
            if (kind == WORD) {
                if (word < FIRST_PARAM_WORD) {
                    return refuse(NO_SUCH_WORD);
                }
                emit(word < FIRST_VALUE_WORD ? Rules.FIRST_PARAM + word - FIRST_PARAM_WORD
                        : Rules.FIRST_VALUE + word - FIRST_VALUE_WORD);
            } else {
                if (!isNumber()) {
                    return false;
                }
                emit(numberOfToken());
            }
            step();
            return true;
        }

        private boolean isNumber() {
            if (kind != NUMBER) {
                return refuse(CANT_STAND);
            }
            return tokenEnd - tokenAt <= MOST_DIGITS || refuse(TOO_MUCH);
        }

        private boolean readSign(int sign) {
            if (!isSign(sign)) {
                return refuse(CANT_STAND);
            }
            step();
            return true;
        }

        private boolean refuse(int why) {
            fault = why;
            faultPlace = tokenAt;
            return false;
        }

        private void emit(int code) {
            if (size < MOST_BYTES) {
                codes[size] = code;
                size++;
            }
        }

        private void step() {
            tokenAt = tokenEnd;
            while (tokenAt < textSize && isBlank(text[tokenAt])) {
                tokenAt++;
            }
            tokenEnd = tokenAt;
            kind = END;
            word = NONE;
            if (tokenAt >= textSize) {
                return;
            }
            kind = kindOf(text[tokenAt]);
            tokenEnd++;
            boolean isRow = kind == WORD || kind == NUMBER;
            while (isRow && tokenEnd < textSize && kindOf(text[tokenEnd]) == kind) {
                tokenEnd++;
            }
            if (kind == WORD) {
                word = wordOfToken();
            }
        }

        private static boolean isBlank(int sign) {
            return sign == BLANK || sign == LINE_END;
        }

        private static int kindOf(int sign) {
            if (sign >= 'a' && sign <= 'z') {
                return WORD;
            }
            if (sign >= '0' && sign <= '9') {
                return NUMBER;
            }
            switch (sign) {
                case ';': case '(': case ')': case '+': case '-': case '*': case '/': case '<': case '=':
                    return SIGN;
                default:
                    return NO_TOKEN;
            }
        }

        private boolean isSign(int sign) {
            return kind == SIGN && text[tokenAt] == sign;
        }

        private int numberOfToken() {
            int number = 0;
            for (int i = tokenAt; i < tokenEnd; i++) {
                number = number * 10 + text[i] - '0';
            }
            return number;
        }

        /** The token's place among WORDS, NONE if it is none of them. */
        private int wordOfToken() {
            int place = 0;
            int at = tokenAt;
            boolean same = true;
            for (int i = 0; i < WORDS.length(); i++) {
                char sign = WORDS.charAt(i);
                if (sign != BLANK) {
                    same = same && at < tokenEnd && text[at] == sign;
                    at++;
                } else if (same && at == tokenEnd) {
                    return place;
                } else {
                    place++;
                    at = tokenAt;
                    same = true;
                }
            }
            return NONE;
        }
    }

    /** The punches of one runner held against its row. */
    private static final class Card {
        private static final int WIDTH = MOST_ELEMENTS + 1;

        private final Courses courses;
        private final Runners runners;
        private final Log log;
        private final int[] row = new int[MOST_ELEMENTS];
        private final int[] posts = new int[MOST_EVENTS];
        private final int[] times = new int[MOST_EVENTS];
        /** Of each place the punch that it is kept by, NONE if it isn't. */
        private final int[] keptBy = new int[MOST_ELEMENTS];
        /** At [place * WIDTH + n] the last punch from which on n of the row from that place can still be found. */
        private final int[] latest = new int[WIDTH * WIDTH];
        private int rowSize = 0;
        private int punches = 0;

        Card(Courses courses, Runners runners, Log log) {
            this.courses = courses;
            this.runners = runners;
            this.log = log;
        }

        void fill(int runner, int k) {
            rowSize = runners.fillPosts(runner, row);
            collect(runner, k);
            Arrays.fill(keptBy, NONE);
            if (runners.runsFree(runner)) {
                keepPunched();
            } else {
                measureRests();
                keepLongest();
            }
        }

        int rowSize() {
            return rowSize;
        }

        boolean isKept(int place) {
            return keptBy[place] != NONE;
        }

        int timeOf(int place) {
            return keptBy[place] == NONE ? NONE : times[keptBy[place]];
        }

        int unkept() {
            int sum = 0;
            for (int i = 0; i < rowSize; i++) {
                if (keptBy[i] == NONE) {
                    sum++;
                }
            }
            return sum;
        }

        int wrong() {
            int sum = 0;
            for (int i = 0; i < punches; i++) {
                if (!isInRow(posts[i])) {
                    sum++;
                }
            }
            return sum;
        }

        int score() {
            int sum = 0;
            for (int i = 0; i < rowSize; i++) {
                if (keptBy[i] != NONE) {
                    sum += courses.pointsOf(row[i]);
                }
            }
            return sum;
        }

        private boolean isInRow(int post) {
            for (int i = 0; i < rowSize; i++) {
                if (row[i] == post) {
                    return true;
                }
            }
            return false;
        }

        private void collect(int runner, int k) {
            punches = 0;
            for (int i = 0; i < log.events(); i++) {
                if (log.isKnown(i, PUNCHES, runner, k)) {
                    insert(log.postOf(i), log.timeOf(i));
                }
            }
        }

        private void insert(int post, int time) {
            int at = punches;
            while (at > 0 && times[at - 1] > time) {
                posts[at] = posts[at - 1];
                times[at] = times[at - 1];
                at--;
            }
            posts[at] = post;
            times[at] = time;
            punches++;
        }

        private void keepPunched() {
            for (int i = 0; i < rowSize; i++) {
                keptBy[i] = firstPunch(row[i], 0);
            }
        }

        private int firstPunch(int post, int from) {
            for (int i = from; i < punches; i++) {
                if (posts[i] == post) {
                    return i;
                }
            }
            return NONE;
        }

        private void measureRests() {
            Arrays.fill(latest, NONE);
            latest[rowSize * WIDTH] = punches;
            for (int place = rowSize - 1; place >= 0; place--) {
                latest[place * WIDTH] = punches;
                for (int n = 1; n <= rowSize - place; n++) {
                    latest[place * WIDTH + n] = latestWith(place, n);
                }
            }
        }

        /** By this place if its punch lies later than without it; all rests behind the place are measured. */
        private int latestWith(int place, int n) {
            int without = latest[(place + 1) * WIDTH + n];
            int rest = latest[(place + 1) * WIDTH + n - 1];
            for (int i = rest - 1; i > without; i--) {
                if (posts[i] == row[place]) {
                    return i;
                }
            }
            return without;
        }

        private void keepLongest() {
            int wanted = 0;
            while (wanted < rowSize && latest[wanted + 1] != NONE) {
                wanted++;
            }
            int from = 0;
            for (int place = 0; place < rowSize && wanted > 0; place++) {
                int punch = firstPunch(row[place], from);
                if (punch != NONE && latest[(place + 1) * WIDTH + wanted - 1] > punch) {
                    keptBy[place] = punch;
                    from = punch + 1;
                    wanted--;
                }
            }
        }
    }

    /** What is known of a runner at a second; look fills it for one runner at a time. */
    private static final class Judge {
        static final int VALUE_MISSED = 0;
        static final int VALUE_WRONG = 1;
        static final int VALUE_RUN = 2;
        static final int VALUE_SCORE = 3;
        static final int VALUE_POSTS = 4;
        static final int VALUE_CLUB = 5;
        static final int VALUE_FREE = 6;

        private final Runners runners;
        private final Log log;
        private final Rules rules;
        private final Card card;
        private final int[] values = new int[VALUES];
        private int state = WAITS;
        private int start = NONE;
        private int finish = NONE;
        private int penalty = 0;
        private int added = 0;
        private int total = NOTHING;
        private int teamTime = NOTHING;

        Judge(Courses courses, Runners runners, Log log, Rules rules) {
            this.runners = runners;
            this.log = log;
            this.rules = rules;
            this.card = new Card(courses, runners, log);
        }

        void look(int runner, int k) {
            card.fill(runner, k);
            start = startOf(runner, k);
            finish = log.timeOf(log.latest(FINISHES, runner, k));
            fillValues(runner);
            rules.apply(values);
            penalty = rules.penalty();
            added = log.addedTo(runner, k);
            state = stateAt(k, log.verdictOn(runner, k));
            total = NOTHING;
            if (state == COUNTS) {
                int extra = penalty + added;
                total = runners.runsFree(runner) ? values[VALUE_SCORE] - extra : values[VALUE_RUN] + extra;
            }
        }

        /** Of the runner looked at last; what 0 to 7. */
        int answer(int what) {
            switch (what) {
                case 0: return state;
                case 1: return start;
                case 2: return finish;
                case 3: return values[VALUE_MISSED];
                case 4: return values[VALUE_WRONG];
                case 5: return values[VALUE_SCORE];
                case 6: return penalty;
                default: return total;
            }
        }

        int splitOf(int runner, int place, int k) {
            card.fill(runner, k);
            int from = startOf(runner, k);
            if (from == NONE || !card.isKept(place)) {
                return NONE;
            }
            return card.timeOf(place) - from;
        }

        int placeOf(int runner, int k) {
            look(runner, k);
            if (state != COUNTS) {
                return NONE;
            }
            int ownTotal = total;
            int ownRun = values[VALUE_RUN];
            boolean free = runners.runsFree(runner);
            int place = 1;
            for (int other = 0; other < runners.size(); other++) {
                if (other == runner || runners.courseOf(other) != runners.courseOf(runner)) {
                    continue;
                }
                look(other, k);
                if (state == COUNTS && (free ? isBetterFree(ownTotal, ownRun) : total < ownTotal)) {
                    place++;
                }
            }
            return place;
        }

        /** If it has a time, that is told by teamTime. */
        boolean lookAtTeam(int team, int k) {
            int sum = 0;
            for (int leg = 0; leg < LEGS; leg++) {
                look(runners.member(team, leg), k);
                if (state != COUNTS) {
                    return false;
                }
                sum += penalty + added;
                if (leg == 0) {
                    sum -= start;
                }
            }
            teamTime = sum + finish;
            return true;
        }

        int teamTime() {
            return teamTime;
        }

        int placeOfTeam(int team, int k) {
            if (!lookAtTeam(team, k)) {
                return NONE;
            }
            int own = teamTime;
            int place = 1;
            for (int other = 0; other < runners.teams(); other++) {
                if (other != team && runners.courseOfTeam(other) == runners.courseOfTeam(team)
                        && lookAtTeam(other, k) && teamTime < own) {
                    place++;
                }
            }
            return place;
        }

        private boolean isBetterFree(int ownTotal, int ownRun) {
            return total > ownTotal || (total == ownTotal && values[VALUE_RUN] < ownRun);
        }

        private int startOf(int runner, int k) {
            int ahead = runners.aheadOf(runner);
            return log.timeOf(ahead == NONE ? log.latest(STARTS, runner, k) : log.latest(FINISHES, ahead, k));
        }

        private void fillValues(int runner) {
            boolean free = runners.runsFree(runner);
            values[VALUE_MISSED] = free ? 0 : card.unkept();
            values[VALUE_WRONG] = card.wrong();
            values[VALUE_RUN] = start == NONE || finish == NONE ? 0 : finish - start;
            values[VALUE_SCORE] = card.score();
            values[VALUE_POSTS] = card.rowSize();
            values[VALUE_CLUB] = runners.clubOf(runner);
            values[VALUE_FREE] = free ? 1 : 0;
        }

        private int stateAt(int k, int verdict) {
            if (start == NONE || start > k) {
                return WAITS;
            }
            if (finish == NONE || finish < start) {
                return RUNS;
            }
            if (verdict == LET_COUNT) {
                return COUNTS;
            }
            if (verdict == PUT_OUT || rules.out()) {
                return OUT;
            }
            return values[VALUE_MISSED] > 0 ? MISSED : COUNTS;
        }
    }

    private static final class Draw {
        private final Runners runners;
        private final Log log;
        private final int[] row = new int[MOST_RUNNERS];
        private final int[] drawn = new int[MOST_RUNNERS];
        private final int[] left = new int[CLUBS];
        private int size = 0;

        Draw(Runners runners, Log log) {
            this.runners = runners;
            this.log = log;
        }

        /** How many are to be drawn. */
        int gather(int course, int now) {
            size = 0;
            Arrays.fill(left, 0);
            for (int i = 0; i < runners.size(); i++) {
                if (runners.courseOf(i) == course && runners.aheadOf(i) == NONE
                        && log.latest(STARTS, i, now) == NONE) {
                    row[size] = i;
                    size++;
                    left[runners.clubOf(i)]++;
                }
            }
            return size;
        }

        int drawn(int i) {
            return drawn[i];
        }

        /** Whether those gathered can be put in a row; it is told by drawn. */
        boolean arrange(long seed) {
            shuffle(seed);
            int ahead = NONE;
            for (int i = 0; i < size; i++) {
                int at = nextAfter(ahead, size - i - 1);
                if (at == NONE) {
                    return false;
                }
                drawn[i] = row[at];
                row[at] = NONE;
                ahead = runners.clubOf(drawn[i]);
                left[ahead]--;
            }
            return true;
        }

        private void shuffle(long seed) {
            long state = seed;
            for (int i = size - 1; i >= 1; i--) {
                state = state * 6364136223846793005L + 1442695040888963407L;
                int j = (int) ((state >>> 33) % (i + 1));
                int moved = row[i];
                row[i] = row[j];
                row[j] = moved;
            }
        }

        private int nextAfter(int ahead, int rest) {
            for (int i = 0; i < size; i++) {
                if (row[i] != NONE && runners.clubOf(row[i]) != ahead
                        && restCanFollow(runners.clubOf(row[i]), rest)) {
                    return i;
                }
            }
            return NONE;
        }

        /** A row exists just if no club has more than every second place, and that of the one ahead not the first. */
        private boolean restCanFollow(int club, int rest) {
            for (int i = 0; i < CLUBS; i++) {
                if (i == club ? left[i] - 1 > rest / 2 : left[i] > (rest + 1) / 2) {
                    return false;
                }
            }
            return true;
        }
    }

    private static final class Best {
        private static final int FAR = 2000000000;
        private static final int GATE = MOST_ELEMENTS;
        private static final int WIDTH = MOST_ELEMENTS + 1;

        private final Land land;
        private final Ways ways;
        private final Courses courses;
        /** Seconds at [from * WIDTH + to] between places; GATE is the start as from, the finish as to. */
        private final int[] legs = new int[WIDTH * WIDTH];
        private final int[] posts = new int[MOST_ELEMENTS];
        /** Fewest seconds at [set * MOST_ELEMENTS + last]; made when first needed, as it is by far the largest row. */
        private int[] table = null;
        private int places = 0;
        private int bestPoints = 0;
        private int bestSeconds = 0;
        private int bestSet = 0;
        private boolean kept = false;

        Best(Land land, Ways ways, Courses courses) {
            this.land = land;
            this.ways = ways;
            this.courses = courses;
        }

        void forget() {
            kept = false;
        }

        boolean isKept() {
            return kept;
        }

        int keptSet() {
            return bestSet;
        }

        int keptSeconds() {
            return bestSeconds;
        }

        int search(int course, int seconds) {
            places = courses.fillRow(course, 0, posts);
            measureLegs();
            int straight = legs[GATE * WIDTH + GATE];
            if (straight == NONE || straight > seconds) {
                return NONE;
            }
            kept = true;
            bestSet = 0;
            bestPoints = 0;
            bestSeconds = straight;
            goThroughSets(seconds);
            return bestPoints;
        }

        private void measureLegs() {
            ways.measure(land.finish, NONE);
            fillLegsTo(GATE);
            for (int to = 0; to < places; to++) {
                ways.measure(courses.cellOf(posts[to]), NONE);
                fillLegsTo(to);
            }
        }

        private void fillLegsTo(int to) {
            legs[GATE * WIDTH + to] = ways.secondsFrom(land.start);
            for (int from = 0; from < places; from++) {
                legs[from * WIDTH + to] = ways.secondsFrom(courses.cellOf(posts[from]));
            }
        }

        private void goThroughSets(int seconds) {
            int sets = 1 << places;
            if (table == null) {
                table = new int[(1 << MOST_ELEMENTS) * MOST_ELEMENTS];
            }
            for (int i = 0; i < sets * MOST_ELEMENTS; i++) {
                table[i] = FAR;
            }
            for (int i = 0; i < places; i++) {
                reach(1 << i, i, 0, legs[GATE * WIDTH + i], seconds);
            }
            for (int set = 1; set < sets; set++) {
                int fewest = closeAndExtend(set, seconds);
                if (fewest <= seconds && fewest != FAR) {
                    compare(set, fewest);
                }
            }
        }

        /** Notes a way on to a last place, if there is one and the time is not over. */
        private void reach(int set, int last, int sofar, int leg, int seconds) {
            if (leg == NONE || sofar + leg > seconds) {
                return;
            }
            int at = set * MOST_ELEMENTS + last;
            if (sofar + leg < table[at]) {
                table[at] = sofar + leg;
            }
        }

        /** Fewest seconds of a set with the way to the finish, FAR if there is none. */
        private int closeAndExtend(int set, int seconds) {
            int fewest = FAR;
            for (int last = 0; last < places; last++) {
                int sofar = table[set * MOST_ELEMENTS + last];
                if (sofar == FAR) {
                    continue;
                }
                int home = legs[last * WIDTH + GATE];
                if (home != NONE) {
                    fewest = Math.min(fewest, sofar + home);
                }
                for (int next = 0; next < places; next++) {
                    if ((set >> next & 1) == 0) {
                        reach(set | 1 << next, next, sofar, legs[last * WIDTH + next], seconds);
                    }
                }
            }
            return fewest;
        }

        /** Sets come by their number, so of like ones the first stays. */
        private void compare(int set, int seconds) {
            int sum = 0;
            for (int i = 0; i < places; i++) {
                if ((set >> i & 1) != 0) {
                    sum += courses.pointsOf(posts[i]);
                }
            }
            if (sum > bestPoints || (sum == bestPoints && seconds < bestSeconds)) {
                bestSet = set;
                bestPoints = sum;
                bestSeconds = seconds;
            }
        }
    }
}
