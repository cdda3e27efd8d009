import java.util.HashMap;
import java.util.Map;

/** The document told again, promise by promise and without haste. */
final class Twin {
    private static final int NONE = -1;
    private SmallRoom small = new SmallRoom(1, 1);
    private final Map<Integer, Integer> told = new HashMap<>();
    /** The plan of the room as it is, whether solve() found it or not; null if not yet sought. */
    private JointPlan joint;
    private boolean found;

    int room(int w, int h) {
        if (w < 1 || w > 6 || h < 1 || h > 6 || w * h > 25) {
            return NONE;
        }
        small = new SmallRoom(w, h);
        told.clear();
        change();
        return w * h;
    }

    int wall(int cell) {
        if (cell < 0 || cell >= small.w * small.h) {
            return NONE;
        }
        small.walls[cell] = !small.walls[cell];
        small.dismiss();
        change();
        return small.walls[cell] ? 1 : 0;
    }

    int mover(int start, int goal) {
        if (!small.add(start, goal)) {
            return NONE;
        }
        change();
        return small.movers() - 1;
    }

    int clear() {
        int gone = small.movers();
        small.dismiss();
        change();
        return gone;
    }

    int distance(int mover) {
        int far = isMover(mover) ? small.distance(mover, small.starts[mover]) : 1000;
        return far < 1000 ? far : NONE;
    }

    /** Of the walks that end at the goal at time c, those that were there at c - 1 cost less. */
    long ways(int mover, int c) {
        if (!isMover(mover) || c < 0 || c > 20) {
            return NONE;
        }
        return c == 0 ? walks(mover, 0) : walks(mover, c) - walks(mover, c - 1);
    }

    int solve(int more) {
        if (more < 0 || more > 6) {
            return NONE;
        }
        int limit = more;
        found = false;
        for (int mover = 0; mover < small.movers(); mover++) {
            if (distance(mover) == NONE) {
                return NONE;
            }
            limit += distance(mover);
        }
        if (joint == null) {
            joint = new JointPlan(small);
        }
        found = joint.sum != NONE && joint.sum <= limit;
        return found ? joint.sum : NONE;
    }

    int cost(int mover) {
        return found && isMover(mover) ? joint.cost(mover) : NONE;
    }

    int at(int mover, int time) {
        return found && isMover(mover) && time >= 0 ? joint.at(mover, time) : NONE;
    }

    int lay(int mover, int time, int cell) {
        if (mover < 0 || mover > 5 || time < 0 || time > 29) {
            return NONE;
        }
        Integer before = told.put(30 * mover + time, cell);
        return before == null ? NONE : before;
    }

    int judge(int what) {
        return what < 0 || what > 3 ? NONE : wrong()[what];
    }

    int movers() {
        return small.movers();
    }

    private void change() {
        joint = null;
        found = false;
    }

    private boolean isMover(int mover) {
        return mover >= 0 && mover < small.movers();
    }

    private long walks(int mover, int length) {
        long[] to = new long[small.w * small.h];
        to[small.starts[mover]] = 1;
        for (int time = 0; time < length; time++) {
            long[] next = new long[to.length];
            for (int from = 0; from < to.length; from++) {
                for (int cell = 0; cell < to.length; cell++) {
                    next[cell] += small.canStep(from, cell) ? to[from] : 0;
                }
            }
            to = next;
        }
        return to[small.goals[mover]];
    }

    /** Where a mover is in the laid plan; null when it is nowhere. */
    private Integer place(int mover, int time) {
        Integer place = null;
        for (int t = 0; t <= time && told.containsKey(30 * mover + t); t++) {
            place = told.get(30 * mover + t);
        }
        return place;
    }

    private int[] wrong() {
        for (int time = 0; time < 30; time++) {
            for (int mover = 0; mover < small.movers(); mover++) {
                if (strays(mover, time)) {
                    return new int[] {1, time, mover, NONE};
                }
            }
            for (int sort = 2; sort <= 3; sort++) {
                int[] pair = leastPair(sort, time);
                if (pair != null) {
                    return new int[] {sort, time, pair[0], pair[1]};
                }
            }
        }
        return new int[] {0, NONE, NONE, NONE};
    }

    private boolean strays(int mover, int time) {
        Integer place = place(mover, time);
        return place == null
                || time == 0 && place != small.starts[mover]
                || !small.isFree(place)
                || time > 0 && !small.canStep(place(mover, time - 1), place)
                || time == 29 && place != small.goals[mover];
    }

    private int[] leastPair(int sort, int time) {
        for (int one = 0; one < small.movers(); one++) {
            for (int other = one + 1; other < small.movers(); other++) {
                if (sort == 2 ? isAt(one, time, other, time) : exchange(one, other, time)) {
                    return new int[] {one, other};
                }
            }
        }
        return null;
    }

    private boolean exchange(int one, int other, int time) {
        return time > 0 && isAt(one, time, other, time - 1) && isAt(other, time, one, time - 1);
    }

    /** Whether one mover is at a time where another one is at its own. */
    private boolean isAt(int one, int time, int other, int otherTime) {
        return place(one, time).equals(place(other, otherTime));
    }
}
