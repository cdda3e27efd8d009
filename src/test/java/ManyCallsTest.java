import java.util.Random;

/** "An object is used for at most 512 calls": the last of them answers as the first would. */
public final class ManyCallsTest {
    private static final Check CHECK = new Check();
    private static final int BEFORE = 512 - 15;

    public static void main(String[] args) {
        for (int seed = 0; seed < 40; seed++) {
            MoverRoom room = new MoverRoom();
            Random random = new Random(seed);
            for (int call = 0; call < BEFORE; call++) {
                callDear(random, room, call);
            }
            lastCalls("behind " + BEFORE + " calls, run " + seed, room);
        }
        CHECK.end();
    }

    /** Plans anew again and again, with as many movers as there may be. */
    private static void callDear(Random random, MoverRoom room, int call) {
        int cells = 24;
        switch (call % 8) {
            case 0:
                if (call == 0 || random.nextInt(10) == 0) {
                    room.room(6, 4);
                } else {
                    room.clear();
                }
                break;
            case 1:
                room.wall(random.nextInt(cells));
                break;
            case 6:
                room.solve(6);
                break;
            case 7:
                room.lay(random.nextInt(6), random.nextInt(30), random.nextInt(cells));
                break;
            default:
                room.mover(random.nextInt(cells), random.nextInt(cells));
                break;
        }
    }

    /** Fifteen calls. */
    private static void lastCalls(String when, MoverRoom room) {
        CHECK.due(when + ": room(3, 2)", room.room(3, 2), 6);
        CHECK.due(when + ": wall(3)", room.wall(3), 1);
        CHECK.due(when + ": wall(5)", room.wall(5), 1);
        CHECK.due(when + ": mover(0, 2)", room.mover(0, 2), 0);
        CHECK.due(when + ": mover(2, 0)", room.mover(2, 0), 1);
        CHECK.due(when + ": solve(2)", room.solve(2), -1);
        CHECK.due(when + ": solve(3)", room.solve(3), 7);
        CHECK.due(when + ": cost(0)", room.cost(0), 3);
        CHECK.due(when + ": at(1, 2)", room.at(1, 2), 4);
        CHECK.due(when + ": distance(1)", room.distance(1), 2);
        CHECK.due(when + ": ways(0, 3)", room.ways(0, 3), 2);
        CHECK.due(when + ": lay(0, 0, 0)", room.lay(0, 0, 0), -1);
        CHECK.due(when + ": judge(0)", room.judge(0), 1);
        CHECK.due(when + ": judge(2)", room.judge(2), 1);
        CHECK.due(when + ": clear()", room.clear(), 2);
    }
}
