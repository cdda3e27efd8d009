import java.util.Arrays;

/**
 * Movers in a room of cells, each on its way from its start to its goal: the best plan for all of
 * them together, the ways of one alone, and where a laid plan goes wrong.
 */
public final class MoverRoom {
    public static final int NONE = -1;

    private static final int MOST_WIDE = 6;
    private static final int MOST_CELLS = 25;
    private static final int MOST_STEPS = 5;
    private static final int MOST_JOINT_PLACES = 16000;
    // Starts differ, and 6 free cells to the power of 6 are too many joint places.
    private static final int MOST_MOVERS = 5;
    private static final int MOST_COST_COUNTED = 20;
    private static final int MOST_MORE = 6;
    private static final int LAID_MOVERS = 6;
    private static final int LAID_TIMES = 30;
    // A mover's cost in a plan is at most its distance, which is below 25, and 6 more.
    private static final int PLAN_TIMES = MOST_CELLS + MOST_MORE + 1;
    // One more than the free cells, once for each mover: 12 to the power of 4 at most.
    private static final int MOST_STATES = 20736;

    private final Floor floor;
    private final Crew crew;
    private final Planner planner;
    private final LaidPlan laid;
    private final Verdict verdict;

    public MoverRoom() {
        floor = new Floor();
        crew = new Crew(floor);
        planner = new Planner(floor, crew);
        laid = new LaidPlan();
        verdict = new Verdict(floor, crew, laid);
    }

    public int room(int w, int h) {
        if (w < 1 || w > MOST_WIDE || h < 1 || h > MOST_WIDE || w * h > MOST_CELLS) {
            return NONE;
        }
        floor.build(w, h);
        crew.dismiss();
        planner.forget();
        laid.forget();
        return w * h;
    }

    public int wall(int cell) {
        if (!floor.has(cell)) {
            return NONE;
        }
        floor.turn(cell);
        crew.dismiss();
        planner.forget();
        return floor.isFree(cell) ? 0 : 1;
    }

    public int mover(int start, int goal) {
        if (!floor.isFree(start) || !floor.isFree(goal) || !crew.canTake(start, goal)) {
            return NONE;
        }
        planner.forget();
        return crew.take(start, goal);
    }

    public int clear() {
        int gone = crew.count;
        crew.dismiss();
        planner.forget();
        return gone;
    }

    public int distance(int mover) {
        return crew.has(mover) ? crew.wayFromStart(mover) : NONE;
    }

    public long ways(int mover, int c) {
        if (!crew.has(mover) || c < 0 || c > MOST_COST_COUNTED) {
            return NONE;
        }
        return crew.countWays(mover, c);
    }

    public int solve(int more) {
        if (more < 0 || more > MOST_MORE) {
            return NONE;
        }
        return planner.find(more);
    }

    public int cost(int mover) {
        return planner.found && crew.has(mover) ? planner.costOf(mover) : NONE;
    }

    public int at(int mover, int time) {
        return planner.found && crew.has(mover) && time >= 0 ? planner.placeOf(mover, time) : NONE;
    }

    public int lay(int mover, int time, int cell) {
        if (mover < 0 || mover >= LAID_MOVERS || time < 0 || time >= LAID_TIMES) {
            return NONE;
        }
        return laid.tell(mover, time, cell);
    }

    public int judge(int what) {
        if (what < 0 || what > 3) {
            return NONE;
        }
        verdict.seek();
        switch (what) {
            case 0:
                return verdict.sort;
            case 1:
                return verdict.time;
            case 2:
                return verdict.lesser;
            default:
                return verdict.greater;
        }
    }

    /** The cells, which of them are walls, and where one step leads. */
    private static final class Floor {
        private int width;
        private int height;
        private final boolean[] walls = new boolean[MOST_CELLS];
        int freeCount;
        /** For each free cell how many free cells have a lesser number. */
        final int[] rank = new int[MOST_CELLS];
        final int[] stepCount = new int[MOST_CELLS];
        /** For each free cell its neighbours and itself, the least number first. */
        final int[][] steps = new int[MOST_CELLS][MOST_STEPS];

        Floor() {
            build(1, 1);
        }

        void build(int w, int h) {
            width = w;
            height = h;
            for (int cell = 0; cell < MOST_CELLS; cell++) {
                walls[cell] = false;
            }
            chart();
        }

        void turn(int cell) {
            walls[cell] = !walls[cell];
            chart();
        }

        boolean has(int cell) {
            return cell >= 0 && cell < width * height;
        }

        boolean isFree(int cell) {
            return has(cell) && !walls[cell];
        }

        /** Whether one may be at a cell and at the next time at another one, or still there. */
        boolean leads(int from, int to) {
            if (!isFree(from)) {
                return false;
            }
            for (int i = 0; i < stepCount[from]; i++) {
                if (steps[from][i] == to) {
                    return true;
                }
            }
            return false;
        }

        private void chart() {
            freeCount = 0;
            for (int y = 0; y < height; y++) {
                for (int x = 0; x < width; x++) {
                    chartCell(x, width * y + x);
                }
            }
        }

        private void chartCell(int x, int cell) {
            rank[cell] = freeCount;
            stepCount[cell] = 0;
            if (walls[cell]) {
                return;
            }
            freeCount++;
            addStep(cell, cell - width);
            if (x > 0) {
                addStep(cell, cell - 1);
            }
            addStep(cell, cell);
            if (x < width - 1) {
                addStep(cell, cell + 1);
            }
            addStep(cell, cell + width);
        }

        private void addStep(int cell, int to) {
            if (isFree(to)) {
                steps[cell][stepCount[cell]] = to;
                stepCount[cell]++;
            }
        }
    }

    /** The movers, and what can be said of each one alone. */
    private static final class Crew {
        private final Floor floor;
        int count;
        final int[] starts = new int[MOST_MOVERS];
        final int[] goals = new int[MOST_MOVERS];
        /** For each mover how far each cell is from its goal, NONE where no way leads there. */
        final int[][] toGoal = new int[MOST_MOVERS][MOST_CELLS];
        private final int[] queue = new int[MOST_CELLS];
        private long[] counts = new long[MOST_CELLS];
        private long[] nextCounts = new long[MOST_CELLS];

        Crew(Floor floor) {
            this.floor = floor;
        }

        boolean has(int mover) {
            return mover >= 0 && mover < count;
        }

        void dismiss() {
            count = 0;
        }

        boolean canTake(int start, int goal) {
            if (count >= MOST_MOVERS) {
                return false;
            }
            int jointPlaces = floor.freeCount;
            for (int mover = 0; mover < count; mover++) {
                if (starts[mover] == start || goals[mover] == goal) {
                    return false;
                }
                jointPlaces *= floor.freeCount;
            }
            return jointPlaces <= MOST_JOINT_PLACES;
        }

        int take(int start, int goal) {
            int mover = count;
            starts[mover] = start;
            goals[mover] = goal;
            count++;
            measure(goal, toGoal[mover]);
            return mover;
        }

        int wayFromStart(int mover) {
            return toGoal[mover][starts[mover]];
        }

        /** The sum of all distances, NONE when a mover can't come to its goal. */
        int sumOfWays() {
            int sum = 0;
            for (int mover = 0; mover < count; mover++) {
                int way = wayFromStart(mover);
                if (way == NONE) {
                    return NONE;
                }
                sum += way;
            }
            return sum;
        }

        long countWays(int mover, int c) {
            int start = starts[mover];
            int goal = goals[mover];
            if (c == 0) {
                return start == goal ? 1 : 0;
            }
            Arrays.fill(counts, 0L);
            counts[start] = 1;
            for (int time = 1; time < c; time++) {
                spreadCounts();
            }
            // The last step comes from elsewhere: else the mover was at its goal before time c.
            return countsBeside(goal) - counts[goal];
        }

        private void spreadCounts() {
            for (int cell = 0; cell < MOST_CELLS; cell++) {
                nextCounts[cell] = floor.isFree(cell) ? countsBeside(cell) : 0;
            }
            long[] old = counts;
            counts = nextCounts;
            nextCounts = old;
        }

        /** How many ways there are to a free cell's neighbours and to the cell itself. */
        private long countsBeside(int cell) {
            long sum = 0;
            for (int i = 0; i < floor.stepCount[cell]; i++) {
                sum += counts[floor.steps[cell][i]];
            }
            return sum;
        }

        private void measure(int goal, int[] way) {
            Arrays.fill(way, NONE);
            way[goal] = 0;
            queue[0] = goal;
            int queued = 1;
            for (int next = 0; next < queued && next < MOST_CELLS; next++) {
                int cell = queue[next];
                for (int i = 0; i < floor.stepCount[cell]; i++) {
                    int beside = floor.steps[cell][i];
                    if (way[beside] == NONE) {
                        way[beside] = way[cell] + 1;
                        queue[queued] = beside;
                        queued++;
                    }
                }
            }
        }
    }

    /** A number 0 .. 15 for each state; sixteen of them share a long to keep the rows short. */
    private static final class Levels {
        private final long[] words = new long[MOST_STATES / 16];

        void reset() {
            Arrays.fill(words, 0L);
        }

        int get(int state) {
            return (int) (words[state >> 4] >>> shiftOf(state)) & 15;
        }

        void put(int state, int level) {
            int shift = shiftOf(state);
            words[state >> 4] = (words[state >> 4] & ~(15L << shift)) | ((long) level << shift);
        }

        private int shiftOf(int state) {
            return (state & 15) * 4;
        }
    }

    /**
     * Finds the plan. A mover SETTLES when it comes to its goal and never leaves it again; until
     * then each time costs it 1. What a step costs beyond the way that it shortens is its waste,
     * and a search from any state has to do with the waste that is left.
     */
    private static final class Planner {
        private final Floor floor;
        private final Crew crew;
        /** For each state one more than the waste with which it is known to come to no end. */
        private final Levels hopeless = new Levels();
        /** The search's own path: where all are at each depth, and which of them have settled. */
        private final int[][] cells = new int[PLAN_TIMES][MOST_MOVERS];
        private final int[] settled = new int[PLAN_TIMES];
        private final int[][] plan = new int[PLAN_TIMES][MOST_MOVERS];
        private int planEnd;
        private int planSum;
        private int nextMore;
        /** Whether the plan is laid out: it is the same for each search until something changes. */
        private boolean known;
        /** Whether the last search found the plan: one with less to spare may miss a known one. */
        boolean found;

        Planner(Floor floor, Crew crew) {
            this.floor = floor;
            this.crew = crew;
        }

        void forget() {
            found = false;
            known = false;
            nextMore = 0;
        }

        int find(int more) {
            int least = crew.sumOfWays();
            if (least == NONE) {
                return NONE;
            }
            if (nextMore == 0) {
                begin();
            }
            for (; !known && nextMore <= more; nextMore++) {
                if (canEnd(0, least + nextMore)) {
                    known = true;
                    planSum = least + nextMore;
                    layOut();
                }
            }
            found = known && planSum <= least + more;
            return found ? planSum : NONE;
        }

        int costOf(int mover) {
            return homeSince(mover, planEnd);
        }

        int placeOf(int mover, int time) {
            return plan[Math.min(time, planEnd)][mover];
        }

        private void begin() {
            hopeless.reset();
            for (int mover = 0; mover < crew.count; mover++) {
                plan[0][mover] = crew.starts[mover];
            }
        }

        private void layOut() {
            planEnd = 0;
            while (planEnd < PLAN_TIMES - 1 && !isOver(planEnd)) {
                chooseNext(planEnd, 0);
                planEnd++;
            }
        }

        /** Once all are at their goals it would only add to the sum if one left again. */
        private boolean isOver(int time) {
            for (int mover = 0; mover < crew.count; mover++) {
                if (plan[time][mover] != crew.goals[mover]) {
                    return false;
                }
            }
            return true;
        }

        /** Sets the plan's next time for this mover and those behind it: the first that can end. */
        private boolean chooseNext(int time, int mover) {
            if (mover >= crew.count) {
                return canEnd(time + 1, planSum);
            }
            int from = plan[time][mover];
            for (int i = 0; i < floor.stepCount[from]; i++) {
                if (goes(plan[time], plan[time + 1], mover, floor.steps[from][i])
                        && chooseNext(time, mover + 1)) {
                    return true;
                }
            }
            return false;
        }

        /** Whether the plan up to a time can be led on to an end with at most this sum. */
        private boolean canEnd(int time, int sum) {
            int home = 0;
            for (int mover = 0; mover < crew.count; mover++) {
                if (plan[time][mover] == crew.goals[mover]) {
                    home |= 1 << mover;
                }
            }
            // Where all are does not tell who of those at home has settled: each choice counts.
            for (int choice = home; choice >= 0; choice--) {
                if ((choice & ~home) == 0) {
                    int waste = startSearch(time, choice, sum);
                    if (waste >= 0 && reachesEnd(0, waste)) {
                        return true;
                    }
                }
            }
            return false;
        }

        /** Starts a search from the plan's time with these settled: the waste that is left. */
        private int startSearch(int time, int choice, int sum) {
            int waste = sum;
            for (int mover = 0; mover < crew.count; mover++) {
                int cell = plan[time][mover];
                cells[0][mover] = cell;
                if (isIn(choice, mover)) {
                    waste -= homeSince(mover, time);
                } else {
                    waste -= time + wayLeft(mover, cell);
                }
            }
            settled[0] = choice;
            return waste;
        }

        /** The time from which on a mover that is at its goal at a time has been there. */
        private int homeSince(int mover, int time) {
            int since = time;
            while (since > 0 && plan[since - 1][mover] == crew.goals[mover]) {
                since--;
            }
            return since;
        }

        /** The least cost to come for one not settled: from its goal it must go and return. */
        private int wayLeft(int mover, int cell) {
            return cell == crew.goals[mover] ? 2 : crew.toGoal[mover][cell];
        }

        private boolean reachesEnd(int depth, int waste) {
            if (settled[depth] == (1 << crew.count) - 1) {
                return true;
            }
            if (depth + 1 >= PLAN_TIMES) {
                return false;
            }
            int state = stateAt(depth);
            if (hopeless.get(state) > waste) {
                return false;
            }
            if (reachesEndMoving(depth, 0, 0, waste)) {
                return true;
            }
            hopeless.put(state, waste + 1);
            return false;
        }

        /** The same when those before this mover have gone on, some of them to settle. */
        private boolean reachesEndMoving(int depth, int mover, int settling, int waste) {
            if (mover >= crew.count) {
                settled[depth + 1] = settling;
                return reachesEnd(depth + 1, waste);
            }
            int[] now = cells[depth];
            int[] next = cells[depth + 1];
            int from = now[mover];
            int withThis = settling | 1 << mover;
            if (isIn(settled[depth], mover)) {
                return goes(now, next, mover, from)
                        && reachesEndMoving(depth, mover + 1, withThis, waste);
            }
            int spare = waste + wayLeft(mover, from) - 1;
            // It settles only as it comes: had it been at its goal, it would have settled before.
            if (crew.toGoal[mover][from] == 1 && goes(now, next, mover, crew.goals[mover])
                    && reachesEndMoving(depth, mover + 1, withThis, spare)) {
                return true;
            }
            for (int i = 0; i < floor.stepCount[from]; i++) {
                int to = floor.steps[from][i];
                int left = spare - wayLeft(mover, to);
                if (left >= 0 && goes(now, next, mover, to)
                        && reachesEndMoving(depth, mover + 1, settling, left)) {
                    return true;
                }
            }
            return false;
        }

        private int stateAt(int depth) {
            int state = 0;
            for (int mover = 0; mover < crew.count; mover++) {
                boolean done = isIn(settled[depth], mover);
                int digit = done ? floor.freeCount : floor.rank[cells[depth][mover]];
                state = state * (floor.freeCount + 1) + digit;
            }
            return state;
        }

        /** Puts a mover to its next cell, unless it meets one of those before it. */
        private static boolean goes(int[] now, int[] next, int mover, int to) {
            for (int other = 0; other < mover; other++) {
                if (next[other] == to || next[other] == now[mover] && now[other] == to) {
                    return false;
                }
            }
            next[mover] = to;
            return true;
        }

        private static boolean isIn(int set, int mover) {
            return (set >> mover & 1) == 1;
        }
    }

    /** What was told of where movers are to be. */
    private static final class LaidPlan {
        private final int[][] cells = new int[LAID_MOVERS][LAID_TIMES];
        /** For each mover a bit for each time of which something was told: any cell can be told. */
        private final int[] told = new int[LAID_MOVERS];
        /** For each mover the first time of which nothing was told. */
        private final int[] length = new int[LAID_MOVERS];

        void forget() {
            Arrays.fill(told, 0);
            Arrays.fill(length, 0);
        }

        int tell(int mover, int time, int cell) {
            int before = isTold(mover, time) ? cells[mover][time] : NONE;
            cells[mover][time] = cell;
            told[mover] |= 1 << time;
            while (length[mover] < LAID_TIMES && isTold(mover, length[mover])) {
                length[mover]++;
            }
            return before;
        }

        boolean isNowhere(int mover) {
            return length[mover] == 0;
        }

        /** Where a mover is that is not nowhere. */
        int placeOf(int mover, int time) {
            return cells[mover][Math.min(time, length[mover] - 1)];
        }

        private boolean isTold(int mover, int time) {
            return (told[mover] >> time & 1) == 1;
        }
    }

    /** Where the laid plan first goes wrong, and how. */
    private static final class Verdict {
        private static final int RIGHT = 0;
        private static final int STRAYED = 1;
        private static final int SHARED = 2;
        private static final int EXCHANGED = 3;

        private final Floor floor;
        private final Crew crew;
        private final LaidPlan laid;
        int sort;
        int time;
        int lesser;
        int greater;

        Verdict(Floor floor, Crew crew, LaidPlan laid) {
            this.floor = floor;
            this.crew = crew;
            this.laid = laid;
        }

        void seek() {
            blame(RIGHT, NONE, NONE, NONE);
            for (int t = 0; t < LAID_TIMES && sort == RIGHT; t++) {
                seekStrayed(t);
                if (sort == RIGHT) {
                    seekMeeting(t, SHARED);
                }
                if (sort == RIGHT && t > 0) {
                    seekMeeting(t, EXCHANGED);
                }
            }
        }

        private void blame(int newSort, int newTime, int newLesser, int newGreater) {
            sort = newSort;
            time = newTime;
            lesser = newLesser;
            greater = newGreater;
        }

        private void seekStrayed(int t) {
            for (int mover = 0; mover < crew.count; mover++) {
                if (strays(mover, t)) {
                    blame(STRAYED, t, mover, NONE);
                    return;
                }
            }
        }

        private boolean strays(int mover, int t) {
            if (laid.isNowhere(mover)) {
                return true;
            }
            int cell = laid.placeOf(mover, t);
            if (t == 0) {
                return cell != crew.starts[mover];
            }
            if (!floor.leads(laid.placeOf(mover, t - 1), cell)) {
                return true;
            }
            return t == LAID_TIMES - 1 && cell != crew.goals[mover];
        }

        private void seekMeeting(int t, int kind) {
            for (int one = 0; one < crew.count; one++) {
                for (int other = one + 1; other < crew.count; other++) {
                    if (kind == SHARED ? share(one, other, t) : exchange(one, other, t)) {
                        blame(kind, t, one, other);
                        return;
                    }
                }
            }
        }

        private boolean share(int one, int other, int t) {
            return laid.placeOf(one, t) == laid.placeOf(other, t);
        }

        private boolean exchange(int one, int other, int t) {
            return laid.placeOf(one, t) == laid.placeOf(other, t - 1)
                    && laid.placeOf(other, t) == laid.placeOf(one, t - 1);
        }
    }
}
