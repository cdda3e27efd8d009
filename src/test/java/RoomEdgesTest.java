/** Promises 1 to 5, sentence by sentence: the edges that each names. */
public final class RoomEdgesTest {
    private static final Check CHECK = new Check();
    private static final int LEAST = Integer.MIN_VALUE;
    private static final int MOST = Integer.MAX_VALUE;

    public static void main(String[] args) {
        newObjectHasOneFreeCell();
        newObjectHasNoMovers();
        newObjectHasNoPlans();
        newRoomIsAllFree();
        newRoomHasNoMovers();
        newRoomHasNoLaidPlan();
        wrongRoomChangesNothing();
        wallTurnsTheFirstAndTheLastCell();
        allCellsWalls();
        moversGoWithTheWall();
        wallWhereNoCellIs();
        moverNumbers();
        moverAtNoFreeCell();
        moverWhereAnotherOneIs();
        mostMovers();
        freeCellsCountNotAll();
        refusedMoverChangesNothing();
        clearTellsHowMany();
        clearTakesMoversAlone();
        CHECK.end();
    }

    /** 1: "A room of one cell" */
    private static void newObjectHasOneFreeCell() {
        MoverRoom room = new MoverRoom();
        CHECK.due("new: wall(-1)", room.wall(-1), -1);
        CHECK.due("new: wall(1)", room.wall(1), -1);
        CHECK.due("new: mover(0, 1)", room.mover(0, 1), -1);
        CHECK.due("new: mover(0, 0)", room.mover(0, 0), 0);
        CHECK.due("new: distance(0)", room.distance(0), 0);
        CHECK.due("new: one mover fills it", room.mover(0, 0), -1);
        CHECK.due("new: wall(0)", room.wall(0), 1);
    }

    /** 1: "no movers" */
    private static void newObjectHasNoMovers() {
        MoverRoom room = new MoverRoom();
        CHECK.due("new: distance(0)", room.distance(0), -1);
        CHECK.due("new: ways(0, 0)", room.ways(0, 0), -1);
        CHECK.due("new: solve(0)", room.solve(0), 0);
        CHECK.due("new: clear()", room.clear(), 0);
    }

    /** 9 and 11 of a new object: none was found, nothing was told. */
    private static void newObjectHasNoPlans() {
        MoverRoom room = new MoverRoom();
        CHECK.due("new: cost(0)", room.cost(0), -1);
        CHECK.due("new: at(0, 0)", room.at(0, 0), -1);
        CHECK.judged("new", room, 0, -1, -1, -1);
        for (int mover = 0; mover < 6; mover++) {
            CHECK.due("new: of time 0", room.lay(mover, 0, 0), -1);
            CHECK.due("new: of time 29", room.lay(mover, 29, 0), -1);
        }
    }

    /** 2: "A new room, all free": of the same size, of another one, and behind all walls. */
    private static void newRoomIsAllFree() {
        int[][] sizes = {{5, 5}, {1, 1}, {6, 4}, {4, 6}};
        for (int[] size : sizes) {
            MoverRoom room = new MoverRoom();
            room.room(5, 5);
            for (int cell = 0; cell < 25; cell++) {
                room.wall(cell);
            }
            int cells = size[0] * size[1];
            CHECK.due("room of " + cells, room.room(size[0], size[1]), cells);
            for (int cell = 0; cell < cells; cell++) {
                CHECK.due("room of " + cells + ": " + cell + " is free", room.wall(cell), 1);
            }
            CHECK.due("room of " + cells + ": no more cells", room.wall(cells), -1);
        }
    }

    /** 2: "without movers" */
    private static void newRoomHasNoMovers() {
        MoverRoom room = FullRoom.made();
        CHECK.due("room(3, 2)", room.room(3, 2), 6);
        CHECK.due("new room: distance(0)", room.distance(0), -1);
        CHECK.due("new room: cost(0)", room.cost(0), -1);
        CHECK.due("new room: at(0, 0)", room.at(0, 0), -1);
        CHECK.due("new room: solve(0)", room.solve(0), 0);
        CHECK.due("new room: clear()", room.clear(), 0);
        CHECK.due("new room: mover(0, 2)", room.mover(0, 2), 0);
    }

    /** 2: "the laid plan is gone": of all movers and times. */
    private static void newRoomHasNoLaidPlan() {
        MoverRoom room = new MoverRoom();
        for (int mover = 0; mover < 6; mover++) {
            for (int time = 0; time < 30; time++) {
                room.lay(mover, time, 1);
            }
        }
        room.room(1, 1);
        for (int mover = 0; mover < 6; mover++) {
            for (int time = 29; time >= 0; time--) {
                CHECK.due("gone: " + mover + ", " + time, room.lay(mover, time, 0), -1);
            }
        }
    }

    /** 2: "NONE, changing nothing, when w or h is not as told" */
    private static void wrongRoomChangesNothing() {
        int[][] wrong = {{0, 2}, {3, 0}, {-1, 2}, {3, -1}, {7, 1}, {1, 7}, {6, 5}, {5, 6}, {7, 0},
            {-3, -2}, {LEAST, 2}, {3, LEAST}, {MOST, 2}, {3, MOST}, {65536, 65536}};
        for (int[] size : wrong) {
            MoverRoom room = FullRoom.made();
            String call = "room(" + size[0] + ", " + size[1] + ")";
            CHECK.due(call, room.room(size[0], size[1]), -1);
            FullRoom.isAsMade(CHECK, call, room);
            CHECK.due(call + ": clear()", room.clear(), 2);
        }
    }

    /** 3: "A cell becomes a wall, or free if it was one: 1 or 0 as it is then." */
    private static void wallTurnsTheFirstAndTheLastCell() {
        int[][] sizes = {{1, 1}, {6, 1}, {1, 6}, {5, 5}};
        for (int[] size : sizes) {
            MoverRoom room = new MoverRoom();
            int cells = room.room(size[0], size[1]);
            for (int cell : new int[] {0, cells - 1}) {
                CHECK.due("wall(" + cell + ")", room.wall(cell), 1);
                CHECK.due("wall: no start", room.mover(cell, cell), -1);
                CHECK.due("wall(" + cell + ") again", room.wall(cell), 0);
                CHECK.due("free: a start", room.mover(cell, cell), 0);
                CHECK.due("wall(" + cell + ") once more", room.wall(cell), 1);
                CHECK.due("wall(" + cell + ") at last", room.wall(cell), 0);
            }
        }
    }

    /** 3 and 4: no cell is left for a mover. */
    private static void allCellsWalls() {
        MoverRoom room = new MoverRoom();
        CHECK.due("the one cell: wall(0)", room.wall(0), 1);
        CHECK.due("all walls: mover(0, 0)", room.mover(0, 0), -1);
        CHECK.due("all walls: solve(0)", room.solve(0), 0);
        CHECK.due("all walls: clear()", room.clear(), 0);
        CHECK.judged("all walls", room, 0, -1, -1, -1);
        CHECK.due("the one cell: wall(0) again", room.wall(0), 0);
        CHECK.due("free: mover(0, 0)", room.mover(0, 0), 0);
    }

    /** 3: "All movers are gone.": by a new wall and by a free cell; the laid plan is not. */
    private static void moversGoWithTheWall() {
        for (int cell : new int[] {4, 3}) {
            MoverRoom room = FullRoom.made();
            CHECK.due("wall(" + cell + ")", room.wall(cell), cell == 4 ? 1 : 0);
            CHECK.due("no mover: distance(0)", room.distance(0), -1);
            CHECK.due("no mover: distance(1)", room.distance(1), -1);
            CHECK.due("no mover: cost(0)", room.cost(0), -1);
            CHECK.due("no mover: solve(0)", room.solve(0), 0);
            FullRoom.isLaid(CHECK, "no mover", room);
            CHECK.due("no mover: clear()", room.clear(), 0);
            CHECK.due("numbers begin again", room.mover(0, 2), 0);
        }
    }

    /** 3: "NONE when there is no such cell." */
    private static void wallWhereNoCellIs() {
        for (int cell : new int[] {-1, 6, 7, 24, 25, LEAST, MOST}) {
            MoverRoom room = FullRoom.made();
            CHECK.due("wall(" + cell + ")", room.wall(cell), -1);
            FullRoom.isAsMade(CHECK, "wall(" + cell + ")", room);
        }
    }

    /** 4: "One more mover: its number." */
    private static void moverNumbers() {
        MoverRoom room = new MoverRoom();
        room.room(6, 1);
        for (int mover = 0; mover < 5; mover++) {
            CHECK.due("mover " + mover, room.mover(mover, 5 - mover), mover);
            CHECK.due("none behind it", room.distance(mover + 1), -1);
        }
        CHECK.due("a sixth", room.mover(5, 0), -1);
        CHECK.due("clear()", room.clear(), 5);
        CHECK.due("the first again", room.mover(5, 0), 0);
    }

    /** 4: "NONE when start or goal is no free cell" */
    private static void moverAtNoFreeCell() {
        for (int cell : new int[] {-1, 6, 25, LEAST, MOST, 3, 5}) {
            MoverRoom room = FullRoom.made();
            CHECK.due("mover(" + cell + ", 1)", room.mover(cell, 1), -1);
            CHECK.due("mover(1, " + cell + ")", room.mover(1, cell), -1);
            CHECK.due("mover(" + cell + ", same)", room.mover(cell, cell), -1);
            FullRoom.isAsMade(CHECK, "no mover at " + cell, room);
        }
        MoverRoom room = FullRoom.made();
        CHECK.due("both free", room.mover(1, 1), 2);
    }

    /** 4: "or another one has it" */
    private static void moverWhereAnotherOneIs() {
        MoverRoom room = FullRoom.made();
        CHECK.due("start of mover 0", room.mover(0, 1), -1);
        CHECK.due("start of mover 1", room.mover(2, 1), -1);
        CHECK.due("goal of mover 0", room.mover(1, 2), -1);
        CHECK.due("goal of mover 1", room.mover(1, 0), -1);
        FullRoom.isAsMade(CHECK, "another one has it", room);
        CHECK.due("none has it", room.mover(1, 4), 2);
        CHECK.due("its goal is no start yet", room.mover(4, 1), 3);
        CHECK.due("all have one", room.clear(), 4);
    }

    /** 4: "the number of free cells, multiplied by itself once for each mover .. 16000" */
    private static void mostMovers() {
        for (int free = 0; free <= 25; free++) {
            MoverRoom room = new MoverRoom();
            room.room(5, 5);
            for (int cell = free; cell < 25; cell++) {
                room.wall(cell);
            }
            int most = 0;
            while (most < free && Math.pow(free, most + 1) <= 16000) {
                CHECK.due(free + " free: one more", room.mover(most, most), most);
                most++;
            }
            for (int cell = 0; cell < 25; cell++) {
                CHECK.due(free + " free: too many", room.mover(cell, cell), -1);
            }
            CHECK.due(free + " free: solve(0)", room.solve(0), 0);
            CHECK.due(free + " free: clear()", room.clear(), most);
        }
    }

    /** 4: the same, when the number of free cells changes. */
    private static void freeCellsCountNotAll() {
        MoverRoom room = new MoverRoom();
        room.room(4, 4);
        CHECK.due("16 free: how many", fill(room), 3);
        for (int cell = 12; cell < 16; cell++) {
            room.wall(cell);
        }
        CHECK.due("12 free: how many", fill(room), 3);
        room.wall(11);
        CHECK.due("11 free: how many", fill(room), 4);
        for (int cell = 6; cell < 11; cell++) {
            room.wall(cell);
        }
        CHECK.due("6 free: how many", fill(room), 5);
        room.wall(6);
        CHECK.due("7 free: how many", fill(room), 4);
        room.room(5, 5);
        CHECK.due("25 free: how many", fill(room), 3);
    }

    private static int fill(MoverRoom room) {
        int count = 0;
        for (int cell = 0; cell < 6; cell++) {
            count += room.mover(cell, cell) >= 0 ? 1 : 0;
        }
        return count;
    }

    /** 4: the mover that is one too many leaves those before it as they were. */
    private static void refusedMoverChangesNothing() {
        MoverRoom room = new MoverRoom();
        room.room(5, 5);
        room.mover(0, 24);
        room.mover(24, 0);
        room.mover(4, 20);
        CHECK.due("three: solve(6)", room.solve(6), 24);
        CHECK.due("a fourth", room.mover(20, 4), -1);
        CHECK.due("three: cost(2)", room.cost(2), 8);
        CHECK.due("three: at(0, 8)", room.at(0, 8), 24);
        CHECK.due("three: distance(3)", room.distance(3), -1);
        CHECK.due("three: clear()", room.clear(), 3);
    }

    /** 5: "how many there were": none, one, and as many as there may be. */
    private static void clearTellsHowMany() {
        MoverRoom room = new MoverRoom();
        room.room(3, 2);
        CHECK.due("none: clear()", room.clear(), 0);
        for (int most = 1; most <= 5; most++) {
            for (int mover = 0; mover < most; mover++) {
                room.mover(mover, mover);
            }
            CHECK.due(most + ": clear()", room.clear(), most);
            CHECK.due(most + ": clear() again", room.clear(), 0);
        }
    }

    /** 5: "All movers are gone": but not the walls, nor the laid plan. */
    private static void clearTakesMoversAlone() {
        MoverRoom room = FullRoom.made();
        CHECK.due("clear()", room.clear(), 2);
        for (int mover = 0; mover < 2; mover++) {
            CHECK.due("cleared: distance", room.distance(mover), -1);
            CHECK.due("cleared: ways", room.ways(mover, 2), -1);
            CHECK.due("cleared: cost", room.cost(mover), -1);
            CHECK.due("cleared: at", room.at(mover, 0), -1);
        }
        CHECK.judged("cleared", room, 0, -1, -1, -1);
        FullRoom.isLaid(CHECK, "cleared", room);
        CHECK.due("cleared: the wall at 3", room.mover(3, 1), -1);
        CHECK.due("cleared: the wall at 5", room.mover(1, 5), -1);
        CHECK.due("cleared: starts and goals are free", room.mover(0, 2), 0);
    }
}
