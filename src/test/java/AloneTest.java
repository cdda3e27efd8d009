import java.util.Random;

/** Promises 6 and 7: distance, ways. */
public final class AloneTest {
    private static final Check CHECK = new Check();

    public static void main(String[] args) {
        distances();
        noneSuch();
        waysByHand();
        waysCounted();
        mostWays();
        CHECK.end();
    }

    private static void distances() {
        MoverRoom room = new MoverRoom();
        room.room(6, 4);
        room.mover(0, 23);
        room.mover(5, 6);
        CHECK.due("corner to corner", room.distance(0), 8);
        CHECK.due("the end of a row is not beside the next row", room.distance(1), 6);
        room.room(5, 5);
        for (int cell : new int[] {5, 6, 7, 8, 16, 17, 18, 19}) {
            room.wall(cell);
        }
        room.mover(0, 24);
        room.mover(12, 12);
        CHECK.due("round the walls", room.distance(0), 16);
        CHECK.due("at its goal", room.distance(1), 0);
        room.wall(4);
        room.mover(0, 24);
        room.mover(24, 15);
        CHECK.due("no way", room.distance(0), -1);
        CHECK.due("a way", room.distance(1), 5);
        room.room(1, 6);
        room.mover(0, 5);
        CHECK.due("one cell wide", room.distance(0), 5);
        room.room(6, 1);
        room.mover(5, 0);
        CHECK.due("one cell high", room.distance(0), 5);
    }

    private static void noneSuch() {
        MoverRoom room = new MoverRoom();
        room.room(2, 2);
        room.mover(0, 3);
        for (int mover : new int[] {-1, 1, 5, 6, Integer.MIN_VALUE, Integer.MAX_VALUE}) {
            CHECK.due("distance(" + mover + ")", room.distance(mover), -1);
            CHECK.due("ways(" + mover + ", 3)", room.ways(mover, 3), -1);
        }
        for (int c : new int[] {-1, 21, 32, Integer.MIN_VALUE, Integer.MAX_VALUE}) {
            CHECK.due("ways(0, " + c + ")", room.ways(0, c), -1);
        }
    }

    private static void waysByHand() {
        MoverRoom room = new MoverRoom();
        room.room(2, 1);
        room.mover(0, 1);
        room.mover(1, 1 - 1);
        CHECK.due("two cells: ways(0, 0)", room.ways(0, 0), 0);
        CHECK.due("two cells: ways(0, 1)", room.ways(0, 1), 1);
        CHECK.due("two cells: ways(0, 2)", room.ways(0, 2), 1);
        CHECK.due("two cells: ways(0, 3)", room.ways(0, 3), 2);
        CHECK.due("two cells: ways(1, 20)", room.ways(1, 20), 1 << 18);
        room.clear();
        room.mover(0, 0);
        CHECK.due("at its goal: ways(0, 0)", room.ways(0, 0), 1);
        CHECK.due("at its goal: ways(0, 1)", room.ways(0, 1), 0);
        CHECK.due("at its goal: ways(0, 2)", room.ways(0, 2), 1);
        room.room(3, 1);
        room.wall(1);
        room.mover(0, 2);
        for (int c = 0; c <= 20; c++) {
            CHECK.due("no way: ways(0, " + c + ")", room.ways(0, c), 0);
        }
    }

    private static void waysCounted() {
        Random random = new Random(7);
        for (int round = 0; round < 60; round++) {
            SmallRoom small = SmallRoom.any(random, 9, 1);
            MoverRoom room = small.made();
            if (small.movers() == 0) {
                continue;
            }
            for (int c = 0; c <= 7; c++) {
                long want = walked(small, small.starts[0], 0, 0, c);
                CHECK.due(small + ": ways(0, " + c + ")", room.ways(0, c), want);
                CHECK.due(small + ": again", room.ways(0, c), want);
            }
        }
    }

    /** Goes each way up to time c; arrived: the time from which on it has been at its goal. */
    private static long walked(SmallRoom small, int cell, int time, int arrived, int c) {
        boolean home = cell == small.goals[0];
        if (time == c) {
            return home && arrived == c ? 1 : 0;
        }
        long sum = 0;
        for (int to = 0; to < small.w * small.h; to++) {
            if (small.canStep(cell, to)) {
                boolean stays = home && to == small.goals[0];
                sum += walked(small, to, time + 1, stays ? arrived : time + 1, c);
            }
        }
        return sum;
    }

    private static void mostWays() {
        MoverRoom room = new MoverRoom();
        room.room(5, 5);
        room.mover(12, 12);
        CHECK.holds("more than an int holds", room.ways(0, 20) > Integer.MAX_VALUE);
        room.mover(0, 24);
        CHECK.due("corner to corner: ways(1, 7)", room.ways(1, 7), 0);
        CHECK.due("corner to corner: ways(1, 8)", room.ways(1, 8), 70);
        CHECK.due("corner to corner: ways(1, 20)", room.ways(1, 20), 45016380154L);
    }
}
