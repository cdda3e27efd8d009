import java.util.Random;

/** The plan in rooms of all sizes, against JointPlan; and that against all plans (AllPlans). */
public final class LargePlanTest {
    private static final Check CHECK = new Check();
    /** Rooms of long ways: wide, high, walls. */
    private static final int[][] MAZES = {
        {5, 5, 5, 6, 7, 8, 16, 17, 18, 19},
        {6, 4, 6, 7, 8, 9, 10, 19, 20, 21, 22, 23},
        {5, 5, 1, 6, 11, 16, 8, 13, 18, 23},
        {5, 5, 6, 8, 16, 18},
        {4, 6, 4, 5, 6, 13, 14, 15},
    };

    public static void main(String[] args) {
        Random random = new Random(17);
        for (int round = 0; round < 100; round++) {
            jointAgainstAll(SmallRoom.any(random, 8, 4));
        }
        int[] found = new int[7];
        for (int round = 0; round < 400; round++) {
            SmallRoom any = SmallRoom.any(random, 9 + random.nextInt(17), 2 + random.nextInt(4));
            compare(random, any, found);
            compare(random, maze(random), found);
        }
        for (int more = 0; more <= 6; more++) {
            CHECK.holds(more + " more is met " + found[more] + " times", found[more] > 4);
        }
        CHECK.end();
    }

    private static void jointAgainstAll(SmallRoom small) {
        AllPlans all = new AllPlans(small, 3);
        if (!all.isWhole() || all.best == null) {
            return;
        }
        JointPlan joint = new JointPlan(small);
        CHECK.due(small + ": the sum of both", joint.sum, all.bestSum);
        for (int mover = 0; mover < small.movers(); mover++) {
            for (int time = 0; time < all.best.length; time++) {
                int cell = all.best[time][mover];
                CHECK.due(small + ": " + mover + " at " + time, joint.at(mover, time), cell);
            }
        }
    }

    private static SmallRoom maze(Random random) {
        int[] maze = MAZES[random.nextInt(MAZES.length)];
        SmallRoom small = new SmallRoom(maze[0], maze[1]);
        int cells = maze[0] * maze[1];
        for (int i = 2; i < maze.length; i++) {
            small.walls[maze[i]] = true;
        }
        for (int holes = random.nextInt(3); holes > 0; holes--) {
            small.walls[maze[2 + random.nextInt(maze.length - 2)]] = false;
        }
        for (int tries = 0; tries < 40 && small.movers() < 3; tries++) {
            small.add(random.nextInt(cells), random.nextInt(cells));
        }
        return small;
    }

    /** Counts in found how much more than the sum of all distances the plan needs. */
    private static void compare(Random random, SmallRoom small, int[] found) {
        int distances = 0;
        for (int mover = 0; mover < small.movers(); mover++) {
            distances += small.distance(mover, small.starts[mover]);
        }
        JointPlan joint = new JointPlan(small);
        int needed = joint.sum < 0 ? 7 : joint.sum - distances;
        MoverRoom room = small.made();
        int more = random.nextInt(7);
        int due = more < needed ? -1 : joint.sum;
        CHECK.due(small + ", solve(" + more + ")", room.solve(more), due);
        CHECK.due(small + ", solve(6)", room.solve(6), needed > 6 ? -1 : joint.sum);
        if (needed > 6) {
            return;
        }
        found[needed]++;
        for (int mover = 0; mover < small.movers(); mover++) {
            CHECK.due(small + ": cost(" + mover + ")", room.cost(mover), joint.cost(mover));
            for (int time = 0; time < 34; time++) {
                int cell = joint.at(mover, time);
                CHECK.due(small + ": at(" + mover + ", " + time + ")", room.at(mover, time), cell);
            }
        }
    }
}
