/** Promises 1 to 5: the new object, room, wall, mover, clear. */
public final class RoomTest {
    private static final Check CHECK = new Check();
    private static final int[] OFTEN_WRONG = {
        Integer.MIN_VALUE, -65536, -7, -1, 0, 7, 25, 65536, 1 << 30, Integer.MAX_VALUE
    };

    public static void main(String[] args) {
        newObject();
        roomSizes();
        roomRefused();
        roomIsNew();
        walls();
        wallsAndMovers();
        moversRefused();
        moversMost();
        clearing();
        CHECK.end();
    }

    private static void newObject() {
        MoverRoom room = new MoverRoom();
        CHECK.due("new: clear()", room.clear(), 0);
        CHECK.due("new: wall(1)", room.wall(1), -1);
        CHECK.due("new: mover(0, 1)", room.mover(0, 1), -1);
        CHECK.due("new: judge(0)", room.judge(0), 0);
        CHECK.due("new: distance(0)", room.distance(0), -1);
        CHECK.due("new: ways(0, 0)", room.ways(0, 0), -1);
        CHECK.due("new: cost(0)", room.cost(0), -1);
        CHECK.due("new: at(0, 0)", room.at(0, 0), -1);
        CHECK.due("new: lay(0, 0, 0)", room.lay(0, 0, 0), -1);
        CHECK.due("new: mover(0, 0)", room.mover(0, 0), 0);
        CHECK.due("new: wall(0)", room.wall(0), 1);
        CHECK.due("new: wall(0) again", room.wall(0), 0);
    }

    private static void roomSizes() {
        MoverRoom room = new MoverRoom();
        for (int w = -1; w <= 8; w++) {
            for (int h = -1; h <= 8; h++) {
                boolean fits = w >= 1 && h >= 1 && w <= 6 && h <= 6 && w * h <= 25;
                CHECK.due("room(" + w + ", " + h + ")", room.room(w, h), fits ? w * h : -1);
                if (fits) {
                    CHECK.due("the last cell", room.wall(w * h - 1), 1);
                    CHECK.due("the cell behind it", room.wall(w * h), -1);
                }
            }
        }
    }

    private static void roomRefused() {
        MoverRoom room = new MoverRoom();
        room.room(3, 1);
        room.wall(1);
        room.wall(1);
        room.mover(0, 2);
        room.solve(0);
        room.lay(0, 0, 0);
        for (int w : OFTEN_WRONG) {
            CHECK.due("room(" + w + ", 0)", room.room(w, 0), -1);
            CHECK.due("room(0, " + w + ")", room.room(0, w), -1);
            CHECK.due("room(" + w + ", 7)", room.room(w, 7), -1);
            CHECK.due("room(65536, " + w + ")", room.room(65536, w), -1);
        }
        CHECK.due("refused: cost(0)", room.cost(0), 2);
        CHECK.due("refused: lay(0, 0, 0)", room.lay(0, 0, 0), 0);
        CHECK.due("refused: distance(0)", room.distance(0), 2);
        CHECK.due("refused: clear()", room.clear(), 1);
    }

    private static void roomIsNew() {
        MoverRoom room = new MoverRoom();
        room.room(5, 5);
        room.wall(1);
        room.mover(0, 0);
        room.solve(0);
        room.lay(0, 0, 7);
        room.lay(5, 29, 9);
        CHECK.due("room(5, 5) again", room.room(5, 5), 25);
        CHECK.due("new room: cost(0)", room.cost(0), -1);
        CHECK.due("new room: clear()", room.clear(), 0);
        CHECK.due("new room: lay(0, 0, 0)", room.lay(0, 0, 0), -1);
        CHECK.due("new room: lay(5, 29, 0)", room.lay(5, 29, 0), -1);
        CHECK.due("new room: mover(1, 1)", room.mover(1, 1), 0);
        CHECK.due("smaller: room(2, 3)", room.room(2, 3), 6);
        room.mover(0, 5);
        CHECK.due("smaller: distance(0)", room.distance(0), 3);
    }

    private static void walls() {
        MoverRoom room = new MoverRoom();
        room.room(4, 4);
        CHECK.due("wall(5)", room.wall(5), 1);
        CHECK.due("wall(6)", room.wall(6), 1);
        CHECK.due("wall(5) again", room.wall(5), 0);
        CHECK.due("wall(6) again", room.wall(6), 0);
        for (int cell : new int[] {-1, 16, 24, Integer.MIN_VALUE, Integer.MAX_VALUE}) {
            CHECK.due("wall(" + cell + ")", room.wall(cell), -1);
        }
    }

    private static void wallsAndMovers() {
        MoverRoom room = new MoverRoom();
        room.room(4, 4);
        room.mover(0, 3);
        room.mover(1, 2);
        room.lay(0, 0, 12);
        CHECK.due("wall(16)", room.wall(16), -1);
        CHECK.due("no such cell: distance(1)", room.distance(1), 1);
        CHECK.due("wall(15)", room.wall(15), 1);
        CHECK.due("wall: distance(0)", room.distance(0), -1);
        CHECK.due("wall: clear()", room.clear(), 0);
        CHECK.due("wall: lay(0, 0, 1)", room.lay(0, 0, 1), 12);
        CHECK.due("mover(15, 0)", room.mover(15, 0), -1);
        CHECK.due("mover(0, 15)", room.mover(0, 15), -1);
        CHECK.due("mover(0, 14)", room.mover(0, 14), 0);
        CHECK.due("wall(15) again", room.wall(15), 0);
        CHECK.due("free again: clear()", room.clear(), 0);
        CHECK.due("free again: mover(0, 15)", room.mover(0, 15), 0);
    }

    private static void moversRefused() {
        MoverRoom room = new MoverRoom();
        room.room(3, 2);
        CHECK.due("mover(0, 5)", room.mover(0, 5), 0);
        CHECK.due("the same start", room.mover(0, 4), -1);
        CHECK.due("the same goal", room.mover(1, 5), -1);
        for (int cell : new int[] {-1, 6, 25, Integer.MIN_VALUE, Integer.MAX_VALUE}) {
            CHECK.due("mover(" + cell + ", 1)", room.mover(cell, 1), -1);
            CHECK.due("mover(1, " + cell + ")", room.mover(1, cell), -1);
        }
        CHECK.due("another one's goal as start", room.mover(5, 0), 1);
        CHECK.due("start and goal the same", room.mover(3, 3), 2);
        CHECK.due("clear()", room.clear(), 3);
    }

    private static void moversMost() {
        // with so many free cells so many movers: free to that power is at most 16000
        mostAre(5, 5, 25, 3);
        mostAre(6, 2, 12, 3);
        mostAre(6, 2, 11, 4);
        mostAre(4, 2, 8, 4);
        mostAre(4, 2, 7, 4);
        mostAre(3, 2, 6, 5);
        mostAre(3, 2, 5, 5);
        mostAre(3, 2, 4, 4);
        mostAre(1, 1, 1, 1);
        mostAre(3, 1, 0, 0);
    }

    private static void mostAre(int w, int h, int free, int most) {
        MoverRoom room = new MoverRoom();
        room.room(w, h);
        for (int cell = free; cell < w * h; cell++) {
            room.wall(cell);
        }
        for (int mover = 0; mover < most; mover++) {
            CHECK.due(free + " free: one more", room.mover(mover, mover), mover);
        }
        for (int cell = 0; cell < w * h; cell++) {
            CHECK.due(free + " free: too many", room.mover(cell, cell), -1);
        }
        CHECK.due(free + " free: clear()", room.clear(), most);
    }

    private static void clearing() {
        MoverRoom room = new MoverRoom();
        room.room(3, 3);
        room.wall(4);
        room.mover(0, 8);
        room.mover(8, 0);
        room.lay(1, 3, 5);
        room.solve(6);
        CHECK.due("clear()", room.clear(), 2);
        CHECK.due("clear() again", room.clear(), 0);
        CHECK.due("cleared: distance(0)", room.distance(0), -1);
        CHECK.due("cleared: cost(0)", room.cost(0), -1);
        CHECK.due("cleared: the wall stays", room.mover(4, 0), -1);
        CHECK.due("cleared: lay(1, 3, 0)", room.lay(1, 3, 0), 5);
        CHECK.due("cleared: mover(0, 8)", room.mover(0, 8), 0);
        CHECK.due("cleared: cost(0) of a new one", room.cost(0), -1);
    }
}
