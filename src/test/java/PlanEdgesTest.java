/** Promises 6 to 10, sentence by sentence: the edges that each names. */
public final class PlanEdgesTest {
    private static final Check CHECK = new Check();
    private static final int LEAST = Integer.MIN_VALUE;
    private static final int MOST = Integer.MAX_VALUE;
    private static final int[] NO_WALLS = {};

    public static void main(String[] args) {
        leastAndGreatestDistance();
        goalOutOfReach();
        noSuchMover();
        waysOfTheLeastAndGreatestCost();
        waysOfACostNotAllowed();
        waysToAGoalOutOfReach();
        moreIsJustEnough();
        moreThanMayBe();
        moreNotAllowed();
        solveOneOutOfReach();
        solveWithoutMovers();
        solveWithAllMovers();
        noneWasFoundYet();
        noneIsFound();
        foundLastStays();
        noneIsFoundBehind();
        changedBehind();
        refusedCallsAreNoChange();
        behindTheEnd();
        timeBelowZero();
        CHECK.end();
    }

    private static MoverRoom roomOf(int w, int h, int[] walls, int... startsAndGoals) {
        MoverRoom room = new MoverRoom();
        room.room(w, h);
        for (int cell : walls) {
            room.wall(cell);
        }
        for (int i = 0; i < startsAndGoals.length; i += 2) {
            CHECK.due("mover", room.mover(startsAndGoals[i], startsAndGoals[i + 1]), i / 2);
        }
        return room;
    }

    private static void noPlan(String when, MoverRoom room) {
        for (int mover = 0; mover < 2; mover++) {
            CHECK.due(when + ": cost(" + mover + ")", room.cost(mover), -1);
            CHECK.due(when + ": at(" + mover + ", 0)", room.at(mover, 0), -1);
            CHECK.due(when + ": at(" + mover + ", 9)", room.at(mover, 9), -1);
        }
    }

    /** 6: "A mover's distance" */
    private static void leastAndGreatestDistance() {
        CHECK.due("none to go", roomOf(1, 1, NO_WALLS, 0, 0).distance(0), 0);
        CHECK.due("one step", roomOf(2, 1, NO_WALLS, 1, 0).distance(0), 1);
        int[] bends = {5, 6, 7, 8, 16, 17, 18, 19};
        CHECK.due("round the bends", roomOf(5, 5, bends, 0, 24).distance(0), 16);
        CHECK.due("and back", roomOf(5, 5, bends, 24, 0).distance(0), 16);
    }

    /** 6: "NONE when it can't come to its goal" */
    private static void goalOutOfReach() {
        MoverRoom room = roomOf(5, 5, new int[] {1, 5}, 0, 24, 24, 0, 6, 2);
        CHECK.due("out of its corner", room.distance(0), -1);
        CHECK.due("into the corner", room.distance(1), -1);
        CHECK.due("another one", room.distance(2), 2);
        room = roomOf(5, 5, new int[] {1, 5}, 0, 0);
        CHECK.due("in its corner", room.distance(0), 0);
    }

    /** 6 and 7: "or there is none such" */
    private static void noSuchMover() {
        MoverRoom room = roomOf(3, 2, NO_WALLS, 0, 1, 1, 2, 2, 5, 5, 4, 4, 3);
        CHECK.due("distance(4)", room.distance(4), 1);
        CHECK.due("ways(4, 1)", room.ways(4, 1), 1);
        for (int mover : new int[] {-1, 5, 6, LEAST, MOST}) {
            CHECK.due("distance(" + mover + ")", room.distance(mover), -1);
            CHECK.due("ways(" + mover + ", 0)", room.ways(mover, 0), -1);
            CHECK.due("ways(" + mover + ", 20)", room.ways(mover, 20), -1);
        }
        room.clear();
        CHECK.due("cleared: distance(0)", room.distance(0), -1);
        CHECK.due("cleared: ways(0, 1)", room.ways(0, 1), -1);
    }

    /** 7: "so that its cost is just c (where it is at each time counts)", c from 0 to 20 */
    private static void waysOfTheLeastAndGreatestCost() {
        MoverRoom room = roomOf(2, 1, NO_WALLS, 0, 0);
        CHECK.due("at its goal: ways(0, 0)", room.ways(0, 0), 1);
        CHECK.due("at its goal: ways(0, 1)", room.ways(0, 1), 0);
        CHECK.due("away and back: ways(0, 2)", room.ways(0, 2), 1);
        CHECK.due("at its goal: ways(0, 19)", room.ways(0, 19), 1L << 17);
        CHECK.due("at its goal: ways(0, 20)", room.ways(0, 20), 1L << 18);
        room = roomOf(2, 1, NO_WALLS, 0, 1);
        CHECK.due("not at its goal: ways(0, 0)", room.ways(0, 0), 0);
        CHECK.due("not at its goal: ways(0, 1)", room.ways(0, 1), 1);
        CHECK.due("not at its goal: ways(0, 20)", room.ways(0, 20), 1L << 18);
        room = roomOf(1, 1, NO_WALLS, 0, 0);
        CHECK.due("nowhere to go: ways(0, 0)", room.ways(0, 0), 1);
        CHECK.due("nowhere to go: ways(0, 20)", room.ways(0, 20), 0);
        room = roomOf(5, 5, NO_WALLS, 0, 24);
        CHECK.due("too near: ways(0, 7)", room.ways(0, 7), 0);
        CHECK.due("just as far: ways(0, 8)", room.ways(0, 8), 70);
        CHECK.due("beyond an int: ways(0, 20)", room.ways(0, 20), 45016380154L);
    }

    /** 7: "NONE .. when c is not 0 .. 20" */
    private static void waysOfACostNotAllowed() {
        MoverRoom room = roomOf(2, 1, NO_WALLS, 0, 0);
        for (int c : new int[] {-1, 21, 22, 64, LEAST, MOST}) {
            CHECK.due("ways(0, " + c + ")", room.ways(0, c), -1);
        }
    }

    /** 7: a mover that can't come to its goal is there, and has no way. */
    private static void waysToAGoalOutOfReach() {
        MoverRoom room = roomOf(3, 1, new int[] {1}, 0, 2);
        CHECK.due("out of reach: ways(0, 0)", room.ways(0, 0), 0);
        CHECK.due("out of reach: ways(0, 2)", room.ways(0, 2), 0);
        CHECK.due("out of reach: ways(0, 20)", room.ways(0, 20), 0);
        CHECK.due("out of reach: ways(0, 21)", room.ways(0, 21), -1);
    }

    /** 8: "a sum of at most the sum of all distances and some more", each from 0 to 6 */
    private static void moreIsJustEnough() {
        needs(0, 2, 4, 1, NO_WALLS, 1, 0, 2, 3);
        needs(1, 6, 3, 2, new int[] {5}, 4, 1, 0, 4, 2, 0);
        needs(2, 5, 2, 3, NO_WALLS, 4, 5, 1, 0, 5, 4);
        needs(3, 7, 3, 2, new int[] {3, 5}, 0, 2, 2, 0);
        needs(4, 8, 4, 2, NO_WALLS, 7, 0, 1, 1, 5, 5);
        needs(5, 9, 2, 3, NO_WALLS, 1, 5, 2, 2, 5, 1);
        needs(6, 9, 4, 2, new int[] {0, 1}, 5, 4, 4, 6);
    }

    /** So much more is needed: with it the sum is as told, with less there is no plan. */
    private static void needs(
            int more, int sum, int w, int h, int[] walls, int... startsAndGoals) {
        String when = "needs " + more;
        for (int given = 0; given <= 6; given++) {
            MoverRoom room = roomOf(w, h, walls, startsAndGoals);
            int due = given < more ? -1 : sum;
            CHECK.due(when + ": solve(" + given + ")", room.solve(given), due);
            CHECK.due(when + ": found", room.cost(0) >= 0 ? 1 : 0, given < more ? 0 : 1);
        }
        MoverRoom room = roomOf(w, h, walls, startsAndGoals);
        for (int given = 0; given <= 6; given++) {
            int due = given < more ? -1 : sum;
            CHECK.due(when + ": one by one, solve(" + given + ")", room.solve(given), due);
        }
    }

    /** 8: "NONE when there is none": there are good plans, but all of them need 7 more, or 8. */
    private static void moreThanMayBe() {
        MoverRoom room = roomOf(2, 3, new int[] {4}, 3, 1, 0, 3, 2, 2);
        CHECK.due("needs 7: solve(6)", room.solve(6), -1);
        noPlan("needs 7", room);
        CHECK.due("needs 7: solve(7)", room.solve(7), -1);
        room = roomOf(3, 2, new int[] {5}, 2, 3, 4, 4, 0, 0);
        CHECK.due("needs 8: solve(6)", room.solve(6), -1);
        CHECK.due("needs 8: solve(8)", room.solve(8), -1);
        noPlan("needs 8", room);
    }

    /** 8: "NONE when .. more is not 0 .. 6" */
    private static void moreNotAllowed() {
        for (int more : new int[] {-1, 7, 8, 25, LEAST, MOST}) {
            MoverRoom room = roomOf(3, 1, NO_WALLS, 0, 2);
            CHECK.due("solve(" + more + ")", room.solve(more), -1);
            noPlan("solve(" + more + ")", room);
            CHECK.due("solve(0)", room.solve(0), 2);
            CHECK.due("solve(6)", room.solve(6), 2);
        }
    }

    /** 8: "NONE when .. a mover can't come to its goal": be it the first, the last or the only */
    private static void solveOneOutOfReach() {
        int[] wall = {2};
        MoverRoom[] rooms = {
            roomOf(5, 1, wall, 0, 4),
            roomOf(5, 1, wall, 0, 4, 1, 0),
            roomOf(5, 1, wall, 1, 0, 3, 3, 4, 1),
        };
        for (MoverRoom room : rooms) {
            CHECK.due("one out of reach: solve(0)", room.solve(0), -1);
            CHECK.due("one out of reach: solve(6)", room.solve(6), -1);
            noPlan("one out of reach", room);
        }
    }

    /** 8: "(Without movers it is 0.)" */
    private static void solveWithoutMovers() {
        MoverRoom room = FullRoom.made();
        room.clear();
        for (int more = 0; more <= 6; more++) {
            CHECK.due("cleared: solve(" + more + ")", room.solve(more), 0);
        }
        noPlan("cleared", room);
        for (int more : new int[] {-1, 7, LEAST, MOST}) {
            CHECK.due("cleared: solve(" + more + ")", room.solve(more), -1);
        }
        room.mover(0, 2);
        noPlan("a mover came behind it", room);
    }

    /** 8: as many movers as there may be */
    private static void solveWithAllMovers() {
        MoverRoom room = roomOf(3, 2, NO_WALLS, 0, 1, 1, 2, 2, 5, 5, 4, 4, 3);
        CHECK.due("five: solve(0)", room.solve(0), 5);
        CHECK.due("five: cost(4)", room.cost(4), 1);
        CHECK.due("five: at(4, 1)", room.at(4, 1), 3);
        CHECK.due("five: cost(5)", room.cost(5), -1);
        CHECK.due("five: at(5, 1)", room.at(5, 1), -1);
        room = roomOf(2, 2, NO_WALLS, 0, 3, 3, 0, 1, 2, 2, 1);
        CHECK.due("no cell is left: solve(6)", room.solve(6), 8);
    }

    /** 9 and 10: "or none was found": solve() was not called yet, or never rightly */
    private static void noneWasFoundYet() {
        MoverRoom room = roomOf(3, 1, NO_WALLS, 0, 1, 1, 2);
        noPlan("not called", room);
        room.distance(0);
        room.ways(0, 3);
        room.judge(0);
        noPlan("other calls", room);
        room.solve(-1);
        room.solve(7);
        noPlan("wrong calls", room);
        CHECK.due("solve(0)", room.solve(0), 2);
        CHECK.due("cost(1)", room.cost(1), 1);
    }

    /** 9 and 10: "or none was found": for want of more, or because there is none */
    private static void noneIsFound() {
        MoverRoom room = roomOf(3, 2, new int[] {3, 5}, 0, 2, 2, 0);
        CHECK.due("too little: solve(2)", room.solve(2), -1);
        noPlan("too little", room);
        CHECK.due("enough: solve(3)", room.solve(3), 7);
        CHECK.due("enough: cost(0)", room.cost(0), 3);
        room.room(2, 1);
        room.mover(0, 1);
        room.mover(1, 0);
        CHECK.due("no plan at all: solve(6)", room.solve(6), -1);
        noPlan("no plan at all", room);
    }

    /** 9 and 10: "the plan that solve() found last": the same, as long as nothing changes. */
    private static void foundLastStays() {
        MoverRoom room = FullRoom.made();
        CHECK.due("with less: solve(3)", room.solve(3), 7);
        FullRoom.isAsMade(CHECK, "with less", room);
        CHECK.due("with more: solve(6)", room.solve(6), 7);
        FullRoom.isAsMade(CHECK, "with more", room);
        // Such a call is refused: it seeks nothing, so the plan found last is the same.
        for (int more : new int[] {-1, 7, LEAST, MOST}) {
            CHECK.due("solve(" + more + ")", room.solve(more), -1);
            FullRoom.isAsMade(CHECK, "solve(" + more + ")", room);
        }
    }

    /** 9 and 10: "or none was found": by the last search, though one before it had found one */
    private static void noneIsFoundBehind() {
        for (int more = 0; more < 3; more++) {
            MoverRoom room = FullRoom.made();
            CHECK.due("too little behind: solve(" + more + ")", room.solve(more), -1);
            noPlan("too little behind", room);
            CHECK.due("too little behind: solve(7)", room.solve(7), -1);
            noPlan("too little behind, then refused", room);
            CHECK.due("enough behind it: solve(3)", room.solve(3), 7);
            FullRoom.isAsMade(CHECK, "enough behind it", room);
        }
    }

    /** 9 and 10: "or room, walls or movers changed behind it" */
    private static void changedBehind() {
        MoverRoom room = FullRoom.made();
        CHECK.due("one more mover", room.mover(1, 1), 2);
        noPlan("one more mover", room);
        room = FullRoom.made();
        room.clear();
        noPlan("cleared", room);
        room.mover(0, 2);
        room.mover(2, 0);
        noPlan("the same movers again", room);
        CHECK.due("the same movers again: solve(6)", room.solve(6), 7);
        CHECK.due("the same movers again: cost(1)", room.cost(1), 4);
        room.wall(4);
        room.mover(0, 2);
        noPlan("one more wall", room);
        room.solve(6);
        room.wall(4);
        room.mover(0, 2);
        noPlan("one wall less", room);
        room.solve(6);
        room.room(3, 2);
        room.mover(0, 2);
        noPlan("a new room", room);
    }

    /** 9 and 10: calls that change neither room nor walls nor movers */
    private static void refusedCallsAreNoChange() {
        MoverRoom room = FullRoom.made();
        room.room(0, 1);
        room.room(6, 5);
        room.wall(-1);
        room.wall(6);
        room.mover(0, 1);
        room.mover(1, 2);
        room.mover(3, 3);
        room.lay(2, 3, 1);
        room.lay(6, 0, 0);
        room.lay(0, 30, 0);
        room.judge(4);
        room.ways(0, 21);
        FullRoom.isAsMade(CHECK, "refused calls", room);
    }

    /** 10: "also behind its end" */
    private static void behindTheEnd() {
        MoverRoom room = FullRoom.made();
        for (int time : new int[] {3, 4, 5, 29, 30, 31, 32, 33, 512, MOST - 1, MOST}) {
            CHECK.due("at(0, " + time + ")", room.at(0, time), 2);
        }
        for (int time : new int[] {4, 5, 29, 30, 31, 32, 33, 512, MOST - 1, MOST}) {
            CHECK.due("at(1, " + time + ")", room.at(1, time), 0);
        }
        room = roomOf(1, 1, NO_WALLS, 0, 0);
        room.solve(0);
        CHECK.due("it ends at once: at(0, 0)", room.at(0, 0), 0);
        CHECK.due("it ends at once: at(0, 1)", room.at(0, 1), 0);
    }

    /** 10: "NONE likewise, or when the time is below 0" */
    private static void timeBelowZero() {
        MoverRoom room = FullRoom.made();
        CHECK.due("at(0, 0)", room.at(0, 0), 0);
        for (int time : new int[] {-1, -2, -30, LEAST}) {
            CHECK.due("at(0, " + time + ")", room.at(0, time), -1);
            CHECK.due("at(1, " + time + ")", room.at(1, time), -1);
        }
        for (int mover : new int[] {-1, 2, 5, LEAST, MOST}) {
            CHECK.due("cost(" + mover + ")", room.cost(mover), -1);
            CHECK.due("at(" + mover + ", 0)", room.at(mover, 0), -1);
            CHECK.due("at(" + mover + ", -1)", room.at(mover, -1), -1);
        }
    }
}
