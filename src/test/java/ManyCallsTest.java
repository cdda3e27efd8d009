import java.util.ArrayList;
import java.util.List;
import java.util.Random;

/** "An object is used for at most 512 calls": the last of them answers as the first would. */
public final class ManyCallsTest {
    private static final Check CHECK = new Check();
    private static final int BEFORE = 512 - 15;
    private static final int CELLS = 24;

    /** What made the room as it is now, call by call: 1 cell, or 2 start and goal. */
    private final List<int[]> made = new ArrayList<>();
    private final MoverRoom room = new MoverRoom();
    private final Random random;
    private final String name;
    private int calls;

    private ManyCallsTest(int seed) {
        random = new Random(seed);
        name = "run " + seed;
    }

    public static void main(String[] args) {
        for (int seed = 0; seed < 60; seed++) {
            ManyCallsTest run = new ManyCallsTest(seed);
            run.callMany();
            run.lastCalls();
        }
        CHECK.end();
    }

    /** Plans anew again and again, also with as many movers as there may be. */
    private void callMany() {
        for (int round = 0; calls + 40 < BEFORE; round++) {
            if (round % 9 == 0) {
                newRoom();
            }
            for (int turn = random.nextInt(3); turn > 0; turn--) {
                turnWall();
            }
            for (int more = 1 + random.nextInt(6); more > 0; more--) {
                addMover();
            }
            solveAsNew();
        }
        for (; calls < BEFORE; calls++) {
            room.lay(random.nextInt(6), random.nextInt(30), random.nextInt(CELLS));
        }
    }

    private void newRoom() {
        room.room(6, 4);
        calls++;
        made.clear();
        for (int walls = random.nextInt(20); walls > 0; walls--) {
            turnWall();
        }
    }

    private void turnWall() {
        int cell = random.nextInt(CELLS);
        room.wall(cell);
        calls++;
        made.add(new int[] {cell});
    }

    private void addMover() {
        int[] mover = {random.nextInt(CELLS), random.nextInt(CELLS)};
        room.mover(mover[0], mover[1]);
        calls++;
        made.add(mover);
    }

    /** Compares with a new object that has the same room, and has never planned before. */
    private void solveAsNew() {
        MoverRoom other = new MoverRoom();
        other.room(6, 4);
        for (int[] call : made) {
            if (call.length == 1) {
                other.wall(call[0]);
            } else {
                other.mover(call[0], call[1]);
            }
        }
        int more = random.nextInt(7);
        CHECK.due(name + ": solve(" + more + ")", room.solve(more), other.solve(more));
        calls++;
        for (int mover = 0; mover < 3; mover++) {
            int time = random.nextInt(9);
            CHECK.due(name + ": cost", room.cost(mover), other.cost(mover));
            CHECK.due(name + ": at", room.at(mover, time), other.at(mover, time));
            calls += 2;
        }
    }

    /** Fifteen calls. */
    private void lastCalls() {
        CHECK.due(name + " behind its calls", calls, BEFORE);
        CHECK.due(name + ": room(3, 2)", room.room(3, 2), 6);
        CHECK.due(name + ": wall(3)", room.wall(3), 1);
        CHECK.due(name + ": wall(5)", room.wall(5), 1);
        CHECK.due(name + ": mover(0, 2)", room.mover(0, 2), 0);
        CHECK.due(name + ": mover(2, 0)", room.mover(2, 0), 1);
        CHECK.due(name + ": solve(2)", room.solve(2), -1);
        CHECK.due(name + ": solve(3)", room.solve(3), 7);
        CHECK.due(name + ": cost(0)", room.cost(0), 3);
        CHECK.due(name + ": at(1, 2)", room.at(1, 2), 4);
        CHECK.due(name + ": distance(1)", room.distance(1), 2);
        CHECK.due(name + ": ways(0, 3)", room.ways(0, 3), 2);
        CHECK.due(name + ": lay(0, 0, 0)", room.lay(0, 0, 0), -1);
        CHECK.due(name + ": judge(0)", room.judge(0), 1);
        CHECK.due(name + ": judge(2)", room.judge(2), 1);
        CHECK.due(name + ": clear()", room.clear(), 2);
    }
}
