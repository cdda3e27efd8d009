import java.util.ArrayList;
import java.util.Arrays;
import java.util.List;

/**
 * The plan of a room of any size: what is left to pay is counted for all joint places, backwards
 * from the goals. A joint place tells for each mover its cell, or that it is at its goal for ever.
 */
final class JointPlan {
    private static final int FAR = 1000;
    private final SmallRoom small;
    private final int[] free;
    private final int movers;
    private final int[] left;
    private final List<List<int[]>> byLeft = new ArrayList<>();
    private final List<int[]> places = new ArrayList<>();
    /** The least sum of all good plans, -1 when there is none. */
    int sum = -1;

    JointPlan(SmallRoom small) {
        this.small = small;
        movers = small.movers();
        free = new int[small.free()];
        for (int cell = 0, i = 0; cell < small.w * small.h; cell++) {
            if (small.isFree(cell)) {
                free[i++] = cell;
            }
        }
        left = new int[(int) Math.pow(free.length + 1, movers)];
        Arrays.fill(left, FAR);
        countAllLeft();
        places.add(small.starts.clone());
        int least = leastSum();
        if (least < FAR) {
            sum = least;
            layOut();
        }
    }

    int at(int mover, int time) {
        return places.get(Math.min(time, places.size() - 1))[mover];
    }

    int cost(int mover) {
        return homeSince(mover, places.size() - 1);
    }

    private void countAllLeft() {
        int[] settled = new int[movers];
        Arrays.fill(settled, free.length);
        reach(settled, 0);
        for (int paid = 0; paid < byLeft.size(); paid++) {
            for (int i = 0; i < byLeft.get(paid).size(); i++) {
                int[] joint = byLeft.get(paid).get(i);
                if (left[number(joint)] == paid) {
                    reachAllBefore(joint, new int[movers], 0, paid);
                }
            }
        }
    }

    private void reach(int[] joint, int paid) {
        if (paid >= left[number(joint)]) {
            return;
        }
        left[number(joint)] = paid;
        while (byLeft.size() <= paid) {
            byLeft.add(new ArrayList<>());
        }
        byLeft.get(paid).add(joint.clone());
    }

    /** All joint places from which one step leads to this one. */
    private void reachAllBefore(int[] joint, int[] before, int mover, int paid) {
        if (mover == movers) {
            reach(before, paid + notSettled(before));
            return;
        }
        for (int i = 0; i < free.length; i++) {
            before[mover] = i;
            if (small.canStep(free[i], cell(joint, mover)) && isApart(before, joint, mover)) {
                reachAllBefore(joint, before, mover + 1, paid);
            }
        }
        before[mover] = free.length;
        if (joint[mover] == free.length && isApart(before, joint, mover)) {
            reachAllBefore(joint, before, mover + 1, paid);
        }
    }

    /** Whether a mover meets none of those with a lesser number. */
    private boolean isApart(int[] before, int[] joint, int mover) {
        for (int other = 0; other < mover; other++) {
            boolean same = cell(before, other) == cell(before, mover);
            boolean exchanged = cell(before, other) == cell(joint, mover)
                    && cell(before, mover) == cell(joint, other);
            if (same || exchanged) {
                return false;
            }
        }
        return true;
    }

    private int cell(int[] joint, int mover) {
        return joint[mover] == free.length ? small.goals[mover] : free[joint[mover]];
    }

    private int notSettled(int[] joint) {
        int count = 0;
        for (int place : joint) {
            count += place == free.length ? 0 : 1;
        }
        return count;
    }

    private int number(int[] joint) {
        int number = 0;
        for (int place : joint) {
            number = number * (free.length + 1) + place;
        }
        return number;
    }

    /** The least sum of a plan that goes as the places tell: each one at home may stay or not. */
    private int leastSum() {
        int least = FAR;
        for (int settled = 0; settled < 1 << movers; settled++) {
            least = Math.min(least, sumWith(settled));
        }
        return least;
    }

    private int sumWith(int settled) {
        int time = places.size() - 1;
        int[] joint = new int[movers];
        int paid = 0;
        for (int mover = 0; mover < movers; mover++) {
            int cell = places.get(time)[mover];
            if ((settled >> mover & 1) == 0) {
                joint[mover] = Arrays.binarySearch(free, cell);
                paid += time;
            } else if (cell == small.goals[mover]) {
                joint[mover] = free.length;
                paid += homeSince(mover, time);
            } else {
                return FAR;
            }
        }
        return paid + left[number(joint)];
    }

    private int homeSince(int mover, int time) {
        int since = time;
        while (since > 0 && places.get(since - 1)[mover] == small.goals[mover]) {
            since--;
        }
        return since;
    }

    private void layOut() {
        while (!Arrays.equals(places.get(places.size() - 1), small.goals)) {
            if (!layNext(places.get(places.size() - 1), new int[movers], 0)) {
                throw new IllegalStateException("no next step in " + small);
            }
        }
    }

    /** Adds the first joint places that keep the least sum. */
    private boolean layNext(int[] now, int[] next, int mover) {
        if (mover == movers) {
            places.add(next.clone());
            if (leastSum() == sum) {
                return true;
            }
            places.remove(places.size() - 1);
            return false;
        }
        for (int cell : free) {
            next[mover] = cell;
            if (small.canStep(now[mover], cell) && !meets(now, next, mover)
                    && layNext(now, next, mover + 1)) {
                return true;
            }
        }
        return false;
    }

    private static boolean meets(int[] now, int[] next, int mover) {
        for (int other = 0; other < mover; other++) {
            if (next[other] == next[mover]
                    || next[other] == now[mover] && next[mover] == now[other]) {
                return true;
            }
        }
        return false;
    }
}
