import java.util.Arrays;

/**
 * Goes through every good plan of a small room whose sum is within a limit, straight by the
 * document's words, and keeps the one with the least sum that comes first.
 */
final class AllPlans {
    private final SmallRoom small;
    private final int[][] distances;
    private final int last;
    private int limit;
    private final int[][] places;
    private long steps;
    int bestSum = -1;
    int[][] best;

    AllPlans(SmallRoom small, int more) {
        this.small = small;
        int cells = small.w * small.h;
        distances = new int[small.movers()][cells];
        int longest = 0;
        for (int mover = 0; mover < small.movers(); mover++) {
            for (int cell = 0; cell < cells; cell++) {
                distances[mover][cell] = small.distance(mover, cell);
            }
            longest = Math.max(longest, distances[mover][small.starts[mover]]);
            limit += distances[mover][small.starts[mover]];
        }
        limit += more;
        last = longest >= 1000 ? 0 : longest + more;
        places = new int[last + 1][small.movers()];
        if (longest < 1000) {
            System.arraycopy(small.starts, 0, places[0], 0, small.movers());
            go(0);
        }
    }

    /** False when the search was given up for its length. */
    boolean isWhole() {
        return steps < 3_000_000L;
    }

    private void go(int time) {
        if (++steps >= 3_000_000L || least(time) > limit) {
            return;
        }
        if (time == last) {
            keep();
            return;
        }
        pick(time, 0);
    }

    private void pick(int time, int mover) {
        if (mover == small.movers()) {
            go(time + 1);
            return;
        }
        for (int to = 0; to < small.w * small.h; to++) {
            if (small.canStep(places[time][mover], to)) {
                places[time + 1][mover] = to;
                if (!meets(time, mover)) {
                    pick(time, mover + 1);
                }
            }
        }
    }

    private boolean meets(int time, int mover) {
        for (int other = 0; other < mover; other++) {
            boolean same = places[time + 1][other] == places[time + 1][mover];
            boolean exchanged = places[time + 1][other] == places[time][mover]
                    && places[time][other] == places[time + 1][mover];
            if (same || exchanged) {
                return true;
            }
        }
        return false;
    }

    /** The least sum that a plan can have that goes so up to this time. */
    private int least(int time) {
        int sum = 0;
        for (int mover = 0; mover < small.movers(); mover++) {
            if (places[time][mover] == small.goals[mover]) {
                sum += cost(mover, time);
            } else {
                sum += time + distances[mover][places[time][mover]];
            }
        }
        return sum;
    }

    private int cost(int mover, int time) {
        int cost = time;
        while (cost > 0 && places[cost - 1][mover] == small.goals[mover]) {
            cost--;
        }
        return cost;
    }

    private void keep() {
        int sum = least(last);
        for (int mover = 0; mover < small.movers(); mover++) {
            if (places[last][mover] != small.goals[mover]) {
                return;
            }
        }
        if (best == null || sum < bestSum || sum == bestSum && comesFirst()) {
            bestSum = sum;
            limit = sum;
            best = new int[last + 1][];
            for (int time = 0; time <= last; time++) {
                best[time] = places[time].clone();
            }
        }
    }

    private boolean comesFirst() {
        for (int time = 0; time <= last; time++) {
            int order = Arrays.compare(places[time], best[time]);
            if (order != 0) {
                return order < 0;
            }
        }
        return false;
    }
}
