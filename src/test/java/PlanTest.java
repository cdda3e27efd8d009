import java.util.Random;

/** Promises 8, 9 and 10: solve, cost, at. */
public final class PlanTest {
    private static final Check CHECK = new Check();

    public static void main(String[] args) {
        noMovers();
        wrongInputs();
        goalsOutOfReach();
        firstOfSeveral();
        givingWay();
        givingWayFromTheGoal();
        notWithMore();
        changedBehind();
        unchangedBehind();
        foundLast();
        againstAllPlans();
        manyMovers();
        largeRoomsAreGood();
        CHECK.end();
    }

    private static void noMovers() {
        MoverRoom room = new MoverRoom();
        for (int more = 0; more <= 6; more++) {
            CHECK.due("no movers: solve(" + more + ")", room.solve(more), 0);
        }
        CHECK.due("no movers: solve(7)", room.solve(7), -1);
        CHECK.due("no movers: cost(0)", room.cost(0), -1);
        CHECK.due("no movers: at(0, 0)", room.at(0, 0), -1);
    }

    private static void wrongInputs() {
        MoverRoom room = new MoverRoom();
        room.room(3, 1);
        room.mover(0, 2);
        for (int more : new int[] {-1, 7, 100, Integer.MIN_VALUE, Integer.MAX_VALUE}) {
            CHECK.due("solve(" + more + ")", room.solve(more), -1);
        }
        CHECK.due("not solved: cost(0)", room.cost(0), -1);
        CHECK.due("not solved: at(0, 0)", room.at(0, 0), -1);
        CHECK.due("solve(0)", room.solve(0), 2);
        for (int mover : new int[] {-1, 1, 5, Integer.MIN_VALUE, Integer.MAX_VALUE}) {
            CHECK.due("cost(" + mover + ")", room.cost(mover), -1);
            CHECK.due("at(" + mover + ", 0)", room.at(mover, 0), -1);
        }
        CHECK.due("at(0, -1)", room.at(0, -1), -1);
        CHECK.due("at(0, MIN)", room.at(0, Integer.MIN_VALUE), -1);
        CHECK.due("at(0, MAX)", room.at(0, Integer.MAX_VALUE), 2);
        CHECK.goes("behind the end", room, 0, 0, 1, 2, 2, 2, 2);
    }

    private static void goalsOutOfReach() {
        MoverRoom room = new MoverRoom();
        room.room(5, 1);
        room.wall(2);
        room.mover(0, 1);
        CHECK.due("in reach: solve(0)", room.solve(0), 1);
        room.mover(1, 4);
        CHECK.due("out of reach: solve(6)", room.solve(6), -1);
        CHECK.due("out of reach: cost(0)", room.cost(0), -1);
    }

    private static void firstOfSeveral() {
        MoverRoom room = new MoverRoom();
        room.room(3, 3);
        room.mover(0, 8);
        CHECK.due("alone: solve(6)", room.solve(6), 4);
        CHECK.goes("alone", room, 0, 0, 1, 2, 5, 8, 8);
        room.clear();
        room.mover(8, 0);
        room.solve(6);
        CHECK.goes("back", room, 0, 8, 5, 2, 1, 0, 0);
    }

    private static void givingWay() {
        MoverRoom room = new MoverRoom();
        room.room(3, 2);
        room.wall(3);
        room.wall(5);
        room.mover(0, 2);
        room.mover(2, 0);
        CHECK.due("giving way: solve(1)", room.solve(1), -1);
        CHECK.due("giving way: solve(2)", room.solve(2), -1);
        CHECK.due("giving way: solve(3)", room.solve(3), 7);
        CHECK.due("giving way: cost(0)", room.cost(0), 3);
        CHECK.due("giving way: cost(1)", room.cost(1), 4);
        CHECK.goes("giving way", room, 0, 0, 0, 1, 2, 2, 2);
        CHECK.goes("giving way", room, 1, 2, 1, 4, 1, 0, 0);
    }

    private static void givingWayFromTheGoal() {
        MoverRoom room = new MoverRoom();
        room.room(3, 2);
        room.wall(3);
        room.wall(5);
        room.mover(1, 1);
        room.mover(0, 2);
        CHECK.due("from the goal: solve(6)", room.solve(6), 4);
        CHECK.due("from the goal: cost(0)", room.cost(0), 2);
        CHECK.due("from the goal: cost(1)", room.cost(1), 2);
        CHECK.goes("from the goal", room, 0, 1, 4, 1, 1);
        CHECK.goes("from the goal", room, 1, 0, 1, 2, 2);
    }

    private static void notWithMore() {
        MoverRoom room = new MoverRoom();
        room.room(2, 1);
        room.mover(0, 1);
        room.mover(1, 0);
        CHECK.due("no room to pass: solve(6)", room.solve(6), -1);
        CHECK.due("no room to pass: cost(0)", room.cost(0), -1);
        CHECK.due("no room to pass: at(0, 0)", room.at(0, 0), -1);
    }

    private static void changedBehind() {
        MoverRoom room = new MoverRoom();
        room.room(3, 2);
        room.mover(0, 2);
        room.solve(0);
        CHECK.due("solved: cost(0)", room.cost(0), 2);
        room.mover(2, 0);
        CHECK.due("one more: cost(0)", room.cost(0), -1);
        CHECK.due("one more: at(0, 0)", room.at(0, 0), -1);
        CHECK.due("one more: solve(6)", room.solve(6), 6);
        CHECK.due("one more: cost(0) + cost(1)", room.cost(0) + room.cost(1), 6);
        room.clear();
        room.mover(0, 2);
        CHECK.due("cleared: at(0, 0)", room.at(0, 0), -1);
        room.solve(0);
        room.wall(1);
        room.mover(0, 2);
        CHECK.due("wall: cost(0)", room.cost(0), -1);
        CHECK.due("wall: solve(0)", room.solve(0), 4);
        room.room(3, 2);
        room.mover(0, 2);
        CHECK.due("room: cost(0)", room.cost(0), -1);
        CHECK.due("room: solve(0)", room.solve(0), 2);
    }

    private static void unchangedBehind() {
        MoverRoom room = new MoverRoom();
        room.room(3, 1);
        room.mover(0, 2);
        room.solve(0);
        room.room(7, 1);
        room.wall(3);
        room.mover(0, 1);
        room.mover(1, 2);
        room.mover(9, 9);
        room.lay(0, 0, 2);
        room.judge(0);
        room.ways(0, 20);
        CHECK.due("refused calls change nothing: cost(0)", room.cost(0), 2);
        CHECK.goes("refused calls change nothing", room, 0, 0, 1, 2, 2);
    }

    private static void foundLast() {
        MoverRoom room = new MoverRoom();
        room.room(3, 2);
        room.wall(3);
        room.wall(5);
        room.mover(0, 2);
        room.mover(2, 0);
        CHECK.due("found: solve(6)", room.solve(6), 7);
        CHECK.due("found: cost(0)", room.cost(0), 3);
        CHECK.due("none found: solve(2)", room.solve(2), -1);
        CHECK.due("none found: cost(0)", room.cost(0), -1);
        CHECK.due("none found: at(1, 2)", room.at(1, 2), -1);
        CHECK.due("found again: solve(4)", room.solve(4), 7);
        CHECK.due("found again: cost(0)", room.cost(0), 3);
        CHECK.due("found again: at(1, 2)", room.at(1, 2), 4);
    }

    private static void againstAllPlans() {
        Random random = new Random(3);
        int found = 0;
        int none = 0;
        for (int round = 0; round < 900; round++) {
            SmallRoom small = SmallRoom.any(random, 3 + random.nextInt(8), 1 + random.nextInt(5));
            int more = random.nextInt(7);
            AllPlans all = new AllPlans(small, more);
            if (!all.isWhole()) {
                continue;
            }
            MoverRoom room = small.made();
            if (random.nextBoolean()) {
                room.solve(random.nextInt(more + 1));
            }
            compare(small + ", solve(" + more + ")", small, room, more, all);
            found += all.best == null ? 0 : 1;
            none += all.best == null ? 1 : 0;
        }
        CHECK.holds(found + " with a plan are enough", found > 300);
        CHECK.holds(none + " without a plan are enough", none > 50);
    }

    private static void compare(
            String what, SmallRoom small, MoverRoom room, int more, AllPlans all) {
        CHECK.due(what, room.solve(more), all.bestSum);
        for (int mover = 0; mover < small.movers(); mover++) {
            if (all.best == null) {
                CHECK.due(what + ": cost(" + mover + ")", room.cost(mover), -1);
                CHECK.due(what + ": at(" + mover + ", 0)", room.at(mover, 0), -1);
                continue;
            }
            int cost = 0;
            for (int time = 0; time < all.best.length; time++) {
                int cell = all.best[time][mover];
                cost = cell == small.goals[mover] ? cost : time + 1;
                CHECK.due(what + ": at(" + mover + ", " + time + ")", room.at(mover, time), cell);
            }
            CHECK.due(what + ": cost(" + mover + ")", room.cost(mover), cost);
        }
    }

    private static MoverRoom roomOf(int w, int h, int[] walls, int... startsAndGoals) {
        MoverRoom room = new MoverRoom();
        room.room(w, h);
        for (int cell : walls) {
            room.wall(cell);
        }
        for (int i = 0; i < startsAndGoals.length; i += 2) {
            CHECK.due("mover", room.mover(startsAndGoals[i], startsAndGoals[i + 1]), i / 2);
        }
        return room;
    }

    /** Sums that a slower search over all joint places told, too, beyond what AllPlans can do. */
    private static void manyMovers() {
        MoverRoom room = roomOf(2, 6, new int[] {5}, 1, 7, 4, 0, 11, 1, 10, 6);
        CHECK.due("four in 11 cells", room.solve(6), 22);
        room = roomOf(5, 2, new int[] {}, 7, 8, 5, 4, 1, 6, 8, 3);
        CHECK.due("four in 10 cells", room.solve(6), 12);
        room = roomOf(6, 2, new int[] {4}, 6, 1, 0, 11, 7, 9, 8, 10);
        CHECK.due("four in 11 cells, no plan", room.solve(6), -1);
        room = roomOf(5, 5, new int[] {2, 4, 8, 13, 18, 20}, 23, 24, 17, 5, 1, 19);
        CHECK.due("three in 19 cells, no plan", room.solve(6), -1);
    }

    private static void largeRoomsAreGood() {
        Random random = new Random(5);
        int found = 0;
        for (int round = 0; round < 1500; round++) {
            SmallRoom small = SmallRoom.any(random, 25, 5);
            MoverRoom room = small.made();
            int sum = room.solve(6);
            if (sum < 0) {
                continue;
            }
            found++;
            int costs = 0;
            for (int mover = 0; mover < small.movers(); mover++) {
                costs += room.cost(mover);
                for (int time = 0; time < 30; time++) {
                    room.lay(mover, time, room.at(mover, time));
                }
            }
            CHECK.due(small + ": the costs' sum", costs, sum);
            CHECK.judged(small.toString(), room, 0, -1, -1, -1);
            int more = sum - distances(small, room);
            CHECK.due(small + ": just enough", small.made().solve(more), sum);
            CHECK.due(small + ": not enough", small.made().solve(more - 1), -1);
        }
        CHECK.holds(found + " with a plan are enough", found > 500);
    }

    private static int distances(SmallRoom small, MoverRoom room) {
        int sum = 0;
        for (int mover = 0; mover < small.movers(); mover++) {
            sum += room.distance(mover);
        }
        return sum;
    }
}
