import java.util.Random;

/** Calls by chance, right and wrong ones: none throws, and the same calls answer the same. */
public final class AnyCallsTest {
    private static final int[] ODD = {
        Integer.MIN_VALUE, -2, -1, 6, 7, 20, 21, 24, 25, 29, 30, 31, 32, Integer.MAX_VALUE
    };

    public static void main(String[] args) {
        Check check = new Check();
        for (int seed = 0; seed < 300; seed++) {
            check.due("run " + seed + " again", run(seed), run(seed));
        }
        check.end();
    }

    private static long run(int seed) {
        Random random = new Random(seed);
        MoverRoom room = new MoverRoom();
        long all = 0;
        for (int call = 0; call < 512; call++) {
            all = all * 31 + callAny(random, room);
        }
        return all;
    }

    private static long callAny(Random random, MoverRoom room) {
        switch (random.nextInt(22)) {
            case 0:
                return room.room(any(random, 7), any(random, 7));
            case 1:
                return room.wall(any(random, 25));
            case 2:
                return room.clear();
            case 3:
                return room.distance(any(random, 6));
            case 4:
                return room.ways(any(random, 5), any(random, 21));
            case 5:
            case 6:
                return room.cost(any(random, 5));
            case 7:
            case 8:
                return room.at(any(random, 5), any(random, 20));
            case 9:
            case 10:
                return room.lay(any(random, 6), any(random, 30), any(random, 25));
            case 11:
                return room.judge(any(random, 4));
            case 12:
            case 13:
            case 14:
                return room.solve(any(random, 7));
            default:
                return room.mover(any(random, 25), any(random, 25));
        }
    }

    private static int any(Random random, int below) {
        return random.nextInt(20) == 0 ? ODD[random.nextInt(ODD.length)] : random.nextInt(below);
    }
}
