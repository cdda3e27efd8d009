/** The document's "Terms", sentence by sentence: what each says of the first and the last case. */
public final class TermsTest {
    private static final Check CHECK = new Check();
    private static final int[] NO_WALLS = {};

    public static void main(String[] args) {
        roomIsWideAndHigh();
        cellsAreNumberedByRows();
        neighboursAreFreeCellsBeside();
        startsAndGoals();
        timeZeroIsTheStart();
        aPlanEndsAtTheGoals();
        costIsForEver();
        meetingAtOneCell();
        meetingByExchange();
        followingIsNoMeeting();
        leastSumBeforeOrder();
        orderByTimeThenMover();
        distanceIsAlone();
        CHECK.end();
    }

    private static MoverRoom roomOf(int w, int h, int[] walls, int... startsAndGoals) {
        MoverRoom room = new MoverRoom();
        room.room(w, h);
        for (int cell : walls) {
            room.wall(cell);
        }
        for (int i = 0; i < startsAndGoals.length; i += 2) {
            CHECK.due("mover", room.mover(startsAndGoals[i], startsAndGoals[i + 1]), i / 2);
        }
        return room;
    }

    /** "w wide and h high (each 1 to 6, w times h at most 25)" */
    private static void roomIsWideAndHigh() {
        MoverRoom room = new MoverRoom();
        int[][] right = {{1, 1}, {1, 6}, {6, 1}, {6, 4}, {4, 6}, {5, 5}};
        int[][] wrong = {{0, 1}, {1, 0}, {7, 1}, {1, 7}, {7, 3}, {3, 7}, {6, 5}, {5, 6}, {6, 6},
            {-1, -1}, {-5, -5}, {25, 1}, {1, 25}, {65536, 65536}, {Integer.MIN_VALUE, 2}};
        for (int[] size : right) {
            CHECK.due("room " + size[0] + ", " + size[1], room.room(size[0], size[1]),
                    size[0] * size[1]);
        }
        for (int[] size : wrong) {
            CHECK.due("room " + size[0] + ", " + size[1], room.room(size[0], size[1]), -1);
        }
    }

    /** "cell x, y has the number w y + x": so far apart are any two in any room without walls. */
    private static void cellsAreNumberedByRows() {
        for (int w = 1; w <= 6; w++) {
            for (int h = 1; h <= 6 && w * h <= 25; h++) {
                for (int start = 0; start < w * h; start++) {
                    distancesFrom(w, h, start);
                }
            }
        }
    }

    private static void distancesFrom(int w, int h, int start) {
        MoverRoom room = new MoverRoom();
        room.room(w, h);
        for (int goal = 0; goal < w * h; goal++) {
            room.mover(start, goal);
            CHECK.due(w + "x" + h + ": from " + start + " to " + goal, room.distance(0),
                    Math.abs(start % w - goal % w) + Math.abs(start / w - goal / w));
            room.clear();
        }
    }

    /** "NEIGHBOURS are free cells beside one another, across or up and down." */
    private static void neighboursAreFreeCellsBeside() {
        MoverRoom room = roomOf(3, 3, NO_WALLS, 4, 4);
        int[] beside = {1, 3, 5, 7};
        int[] aslant = {0, 2, 6, 8};
        for (int cell : beside) {
            room.clear();
            room.mover(4, cell);
            CHECK.due("4 beside " + cell, room.distance(0), 1);
            CHECK.due("4 beside " + cell + ": one way", room.ways(0, 1), 1);
        }
        for (int cell : aslant) {
            room.clear();
            room.mover(4, cell);
            CHECK.due("4 aslant of " + cell, room.distance(0), 2);
            CHECK.due("4 aslant of " + cell + ": no way", room.ways(0, 1), 0);
        }
        room = roomOf(3, 1, new int[] {1}, 0, 2);
        CHECK.due("a wall is no neighbour", room.distance(0), -1);
        room = roomOf(2, 2, new int[] {1, 2}, 0, 3);
        CHECK.due("aslant between walls", room.distance(0), -1);
    }

    /** "no two have the same start, no two the same goal": but one's start may be a goal. */
    private static void startsAndGoals() {
        MoverRoom room = roomOf(2, 2, NO_WALLS, 0, 1, 1, 0, 2, 2);
        CHECK.due("the same start as the first", room.mover(0, 3), -1);
        CHECK.due("the same start as the last", room.mover(2, 3), -1);
        CHECK.due("the same goal as the first", room.mover(3, 1), -1);
        CHECK.due("the same goal as the last", room.mover(3, 2), -1);
        CHECK.due("neither", room.mover(3, 3), 3);
    }

    /** "at time 0 a mover is at its start, from each time to the next it stays or goes" */
    private static void timeZeroIsTheStart() {
        MoverRoom room = roomOf(5, 1, NO_WALLS, 4, 0);
        CHECK.due("solve(0)", room.solve(0), 4);
        CHECK.goes("one cell at a time", room, 0, 4, 3, 2, 1, 0);
    }

    /** "In a PLAN each mover comes to its goal in the end and stays there." */
    private static void aPlanEndsAtTheGoals() {
        MoverRoom room = roomOf(5, 1, NO_WALLS, 2, 0, 3, 4);
        CHECK.due("solve(6)", room.solve(6), 3);
        for (int time : new int[] {2, 3, 29, 30, 31, 32, 33, 1000, Integer.MAX_VALUE}) {
            CHECK.due("at(0, " + time + ")", room.at(0, time), 0);
            CHECK.due("at(1, " + time + ")", room.at(1, time), 4);
        }
    }

    /** "A mover's COST is the least time from which on it is at its goal for ever." */
    private static void costIsForEver() {
        MoverRoom room = roomOf(3, 2, new int[] {3, 5}, 0, 1, 2, 0);
        CHECK.due("over its goal: solve(2)", room.solve(2), -1);
        CHECK.due("over its goal: solve(3)", room.solve(3), 6);
        CHECK.goes("over its goal", room, 0, 0, 1, 4, 1, 1);
        CHECK.due("over its goal: cost(0)", room.cost(0), 3);
        room = roomOf(2, 1, NO_WALLS, 0, 0, 1, 1);
        CHECK.due("never away: solve(0)", room.solve(0), 0);
        CHECK.due("never away: cost(0)", room.cost(0), 0);
        CHECK.due("never away: cost(1)", room.cost(1), 0);
        room = roomOf(4, 1, NO_WALLS, 0, 0, 1, 3);
        CHECK.due("never away while another one goes: solve(0)", room.solve(0), 2);
        CHECK.due("never away while another one goes: cost(0)", room.cost(0), 0);
        CHECK.due("never away while another one goes: cost(1)", room.cost(1), 2);
    }

    /** "MEET when they are at the same cell at the same time": behind the end of one's way too. */
    private static void meetingAtOneCell() {
        MoverRoom room = roomOf(3, 1, NO_WALLS, 1, 1, 0, 2);
        CHECK.due("one is in the way: distance(1)", room.distance(1), 2);
        CHECK.due("one is in the way: solve(6)", room.solve(6), -1);
        room = roomOf(3, 2, NO_WALLS, 1, 1, 0, 2);
        CHECK.due("a way round: solve(1)", room.solve(1), -1);
        CHECK.due("a way round: solve(2)", room.solve(2), 4);
        room = roomOf(3, 3, new int[] {0, 2, 6, 8}, 1, 7, 3, 5);
        CHECK.due("at a crossing: solve(0)", room.solve(0), -1);
        CHECK.due("at a crossing: solve(1)", room.solve(1), 5);
    }

    /** "or when each goes to the other's cell from one time to the next" */
    private static void meetingByExchange() {
        MoverRoom room = roomOf(2, 1, NO_WALLS, 0, 1, 1, 0);
        CHECK.due("beside one another: solve(6)", room.solve(6), -1);
        room = roomOf(4, 1, NO_WALLS, 0, 3, 3, 0);
        CHECK.due("in the middle: solve(6)", room.solve(6), -1);
        room = roomOf(1, 2, NO_WALLS, 1, 0, 0, 1);
        CHECK.due("up and down: solve(6)", room.solve(6), -1);
    }

    /** The same sentence: one may go where another one just leaves, if that goes elsewhere. */
    private static void followingIsNoMeeting() {
        MoverRoom room = roomOf(3, 1, NO_WALLS, 0, 1, 1, 2);
        CHECK.due("behind one another: solve(0)", room.solve(0), 2);
        room = roomOf(2, 2, NO_WALLS, 0, 1, 1, 3, 3, 2, 2, 0);
        CHECK.due("all round: solve(0)", room.solve(0), 4);
    }

    /** "THE PLAN is the good one with the least sum; of several the one that comes first." */
    private static void leastSumBeforeOrder() {
        MoverRoom room = roomOf(3, 1, NO_WALLS, 1, 2);
        CHECK.due("not by cell 0: solve(6)", room.solve(6), 1);
        CHECK.goes("not by cell 0", room, 0, 1, 2, 2);
        room = roomOf(2, 2, NO_WALLS, 3, 0);
        CHECK.due("of two: solve(6)", room.solve(6), 2);
        CHECK.goes("of two", room, 0, 3, 1, 0);
    }

    /** "compared by where movers are at time 1, mover 0 first, then mover 1, .., then at time 2" */
    private static void orderByTimeThenMover() {
        MoverRoom room = roomOf(3, 2, NO_WALLS, 0, 5, 5, 0);
        CHECK.due("time before mover: solve(0)", room.solve(0), 6);
        CHECK.goes("time before mover", room, 0, 0, 1, 4, 5);
        CHECK.goes("time before mover", room, 1, 5, 2, 1, 0);
        room = roomOf(3, 3, new int[] {0, 2, 6, 8}, 3, 5, 1, 7);
        CHECK.due("the lesser mover first: solve(6)", room.solve(6), 5);
        CHECK.goes("the lesser mover first", room, 0, 3, 3, 4, 5);
        CHECK.goes("the lesser mover first", room, 1, 1, 4, 7, 7);
        room = roomOf(3, 3, new int[] {0, 2, 6, 8}, 1, 7, 3, 5);
        CHECK.due("the lesser cell first: solve(6)", room.solve(6), 5);
        CHECK.goes("the lesser cell first", room, 0, 1, 1, 4, 7);
        CHECK.goes("the lesser cell first", room, 1, 3, 4, 5, 5);
    }

    /** "THE DISTANCE of a mover is the least cost that it can have alone." */
    private static void distanceIsAlone() {
        MoverRoom room = roomOf(3, 1, NO_WALLS, 0, 2, 1, 1);
        CHECK.due("another one is in the way", room.distance(0), 2);
        CHECK.due("at its goal", room.distance(1), 0);
        CHECK.due("ways(0, 2)", room.ways(0, 2), 1);
    }
}
