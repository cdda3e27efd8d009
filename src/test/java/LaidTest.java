import java.util.Random;

/** Promises 11 and 12: lay, judge. */
public final class LaidTest {
    private static final Check CHECK = new Check();

    public static void main(String[] args) {
        telling();
        tellingWrong();
        whats();
        strayedAtTheStart();
        strayedLater();
        strayedAtTheEnd();
        gaps();
        shared();
        exchanged();
        orderOfSorts();
        leastPair();
        roomAndMovers();
        againstTheWords();
        CHECK.end();
    }

    private static MoverRoom roomOf(int w, int h, int... startsAndGoals) {
        MoverRoom room = new MoverRoom();
        room.room(w, h);
        for (int i = 0; i < startsAndGoals.length; i += 2) {
            room.mover(startsAndGoals[i], startsAndGoals[i + 1]);
        }
        return room;
    }

    private static void layAll(MoverRoom room, int mover, int... cells) {
        for (int time = 0; time < cells.length; time++) {
            room.lay(mover, time, cells[time]);
        }
    }

    private static void telling() {
        MoverRoom room = new MoverRoom();
        for (int mover = 0; mover < 6; mover++) {
            for (int time = 0; time < 30; time++) {
                CHECK.due("nothing told", room.lay(mover, time, 100 * mover + time), -1);
            }
        }
        for (int mover = 0; mover < 6; mover++) {
            for (int time = 0; time < 30; time++) {
                CHECK.due("told", room.lay(mover, time, -1), 100 * mover + time);
            }
        }
        CHECK.due("told -1", room.lay(5, 29, Integer.MIN_VALUE), -1);
        CHECK.due("told the least", room.lay(5, 29, Integer.MAX_VALUE), Integer.MIN_VALUE);
        CHECK.due("told the greatest", room.lay(5, 29, 0), Integer.MAX_VALUE);
    }

    private static void tellingWrong() {
        MoverRoom room = roomOf(2, 2, 0, 0);
        for (int wrong : new int[] {-1, 6, 30, Integer.MIN_VALUE, Integer.MAX_VALUE}) {
            CHECK.due("lay(" + wrong + ", 0, 0)", room.lay(wrong, 0, 0), -1);
            CHECK.due("lay(" + wrong + ", 0, 0) again", room.lay(wrong, 0, 0), -1);
        }
        for (int wrong : new int[] {-1, 30, 32, Integer.MIN_VALUE, Integer.MAX_VALUE}) {
            CHECK.due("lay(0, " + wrong + ", 0)", room.lay(0, wrong, 0), -1);
            CHECK.due("lay(0, " + wrong + ", 0) again", room.lay(0, wrong, 0), -1);
        }
        CHECK.judged("nothing was told", room, 1, 0, 0, -1);
    }

    private static void whats() {
        MoverRoom room = roomOf(2, 2, 0, 1, 1, 0);
        layAll(room, 0, 0, 1);
        layAll(room, 1, 1, 0);
        CHECK.judged("a pair is wrong", room, 3, 1, 0, 1);
        for (int what : new int[] {-1, 4, 5, Integer.MIN_VALUE, Integer.MAX_VALUE}) {
            CHECK.due("judge(" + what + ")", room.judge(what), -1);
        }
        CHECK.judged("no movers", roomOf(3, 3), 0, -1, -1, -1);
    }

    private static void strayedAtTheStart() {
        MoverRoom room = roomOf(3, 1, 0, 0, 1, 1, 2, 2);
        layAll(room, 0, 0);
        layAll(room, 2, 1);
        CHECK.judged("nowhere", room, 1, 0, 1, -1);
        layAll(room, 1, 1);
        CHECK.judged("not at its start comes before the shared cell", room, 1, 0, 2, -1);
        layAll(room, 2, -1);
        CHECK.judged("at no cell", room, 1, 0, 2, -1);
        layAll(room, 2, 2);
        CHECK.judged("right", room, 0, -1, -1, -1);
    }

    private static void strayedLater() {
        MoverRoom room = new MoverRoom();
        room.room(3, 3);
        room.wall(4);
        room.mover(0, 8);
        layAll(room, 0, 0, 1, 2, 5, 8);
        CHECK.judged("right", room, 0, -1, -1, -1);
        layAll(room, 0, 0, 0, 1, 1, 2, 5, 5, 8);
        CHECK.judged("staying is right", room, 0, -1, -1, -1);
        layAll(room, 0, 0, 1, 4);
        CHECK.judged("into a wall", room, 1, 2, 0, -1);
        layAll(room, 0, 0, 1, 5);
        CHECK.judged("aslant", room, 1, 2, 0, -1);
        layAll(room, 0, 0, 1, 2, 3);
        CHECK.judged("from the end of a row to the next row", room, 1, 3, 0, -1);
        for (int cell : new int[] {-1, -2, 9, 25, Integer.MIN_VALUE, Integer.MAX_VALUE}) {
            layAll(room, 0, 0, 1, cell);
            CHECK.judged("to " + cell, room, 1, 2, 0, -1);
        }
        layAll(room, 0, 0, 3, -3);
        CHECK.judged("up, out of the room", room, 1, 2, 0, -1);
        layAll(room, 0, 0, 3, 6, 9);
        CHECK.judged("down, out of the room", room, 1, 3, 0, -1);
    }

    private static void strayedAtTheEnd() {
        MoverRoom room = roomOf(2, 1, 0, 1, 1, 0);
        layAll(room, 0, 0);
        layAll(room, 1, 1);
        CHECK.judged("none comes to its goal", room, 1, 29, 0, -1);
        room = roomOf(2, 1, 0, 1);
        for (int time = 0; time < 29; time++) {
            room.lay(0, time, 0);
            CHECK.judged("waits", room, 1, 29, 0, -1);
        }
        room.lay(0, 29, 1);
        CHECK.judged("comes at the last time", room, 0, -1, -1, -1);
        room.lay(0, 28, 1);
        CHECK.judged("comes before it", room, 0, -1, -1, -1);
        room.lay(0, 29, 0);
        CHECK.judged("leaves at the last time", room, 1, 29, 0, -1);
    }

    private static void gaps() {
        MoverRoom room = roomOf(3, 1, 0, 2);
        room.lay(0, 1, 1);
        room.lay(0, 2, 2);
        CHECK.judged("nothing of time 0", room, 1, 0, 0, -1);
        room.lay(0, 0, 0);
        CHECK.judged("now of all", room, 0, -1, -1, -1);
        room.lay(0, 4, 0);
        room.lay(0, 29, 77);
        CHECK.judged("behind the gap nothing counts", room, 0, -1, -1, -1);
        room.lay(0, 3, 2);
        CHECK.judged("the gap is closed", room, 1, 4, 0, -1);
    }

    private static void shared() {
        MoverRoom room = roomOf(3, 2, 0, 2, 2, 5);
        layAll(room, 0, 0, 1, 2);
        layAll(room, 1, 2, 2, 2, 5);
        CHECK.judged("at the same cell", room, 2, 2, 0, 1);
        layAll(room, 1, 2, 2, 5, 5);
        CHECK.judged("right, though into a cell that is just left", room, 0, -1, -1, -1);
        layAll(room, 1, 2, 5, 5, 2, 5);
        CHECK.judged("at the cell of one that has come", room, 2, 3, 0, 1);
    }

    private static void exchanged() {
        MoverRoom room = roomOf(2, 2, 0, 1, 1, 0);
        layAll(room, 0, 0, 1);
        layAll(room, 1, 1, 0);
        CHECK.judged("exchanged", room, 3, 1, 0, 1);
        room = roomOf(2, 2, 0, 1, 1, 3, 3, 2, 2, 0);
        layAll(room, 0, 0, 1);
        layAll(room, 1, 1, 3);
        layAll(room, 2, 3, 2);
        layAll(room, 3, 2, 0);
        CHECK.judged("all round", room, 0, -1, -1, -1);
    }

    private static void orderOfSorts() {
        MoverRoom room = roomOf(6, 1, 0, 1, 1, 0, 2, 3, 3, 4);
        CHECK.due("so many movers", room.distance(3), 1);
        layAll(room, 0, 0, 1);
        layAll(room, 1, 1, 0);
        layAll(room, 2, 2, 3);
        layAll(room, 3, 3, 3);
        CHECK.judged("the same cell before an exchange", room, 2, 1, 2, 3);
        layAll(room, 3, 3, 5);
        CHECK.judged("a stray before both", room, 1, 1, 3, -1);
        layAll(room, 2, 2, 2, 3);
        layAll(room, 3, 3, 3, 5);
        CHECK.judged("the earlier time before the sort", room, 3, 1, 0, 1);
    }

    private static void leastPair() {
        MoverRoom room = roomOf(5, 2, 2, 2, 0, 0, 5, 5);
        layAll(room, 0, 2);
        layAll(room, 1, 0, 1, 2);
        layAll(room, 2, 5, 6, 7, 2);
        CHECK.judged("the earlier time", room, 2, 2, 0, 1);
        layAll(room, 1, 0, 0, 1, 2);
        CHECK.judged("the least pair of three", room, 2, 3, 0, 1);
        room = roomOf(3, 2, 0, 0, 1, 1, 2, 2, 3, 3, 4, 4);
        layAll(room, 0, 0);
        layAll(room, 1, 1, 4);
        layAll(room, 2, 2);
        layAll(room, 3, 3, 0);
        layAll(room, 4, 4);
        CHECK.judged("the lesser one counts first", room, 2, 1, 0, 3);
        layAll(room, 0, 0, 3);
        layAll(room, 4, 4, 1);
        CHECK.judged("of exchanges too", room, 3, 1, 0, 3);
        layAll(room, 3, 3, 3);
        layAll(room, 0, 0, 0);
        CHECK.judged("the other exchange", room, 3, 1, 1, 4);
    }

    private static void roomAndMovers() {
        MoverRoom room = roomOf(3, 1, 0, 2);
        layAll(room, 0, 0, 1, 2);
        layAll(room, 1, 2, 1, 0);
        CHECK.judged("of no mover nothing counts", room, 0, -1, -1, -1);
        room.mover(2, 0);
        CHECK.judged("a new mover", room, 2, 1, 0, 1);
        room.clear();
        CHECK.judged("cleared", room, 0, -1, -1, -1);
        room.mover(0, 2);
        CHECK.judged("still laid", room, 0, -1, -1, -1);
        room.wall(1);
        room.mover(0, 2);
        CHECK.judged("a wall now", room, 1, 1, 0, -1);
        room.room(3, 1);
        room.mover(0, 2);
        CHECK.judged("gone with the room", room, 1, 0, 0, -1);
    }

    private static void againstTheWords() {
        Random random = new Random(11);
        int[] seen = new int[4];
        for (int round = 0; round < 4000; round++) {
            SmallRoom small = SmallRoom.any(random, 8, 4);
            MoverRoom room = small.made();
            int[][] told = new int[small.movers()][];
            for (int mover = 0; mover < small.movers(); mover++) {
                told[mover] = anyWalk(random, small, mover);
                layAll(room, mover, told[mover]);
            }
            int[] want = wrongOf(small, told);
            CHECK.judged(small.toString(), room, want[0], want[1], want[2], want[3]);
            seen[want[0]]++;
        }
        for (int sort = 0; sort < 4; sort++) {
            CHECK.holds("sort " + sort + " is met " + seen[sort] + " times", seen[sort] > 40);
        }
    }

    /** Mostly a walk towards the goal, at times something else. */
    private static int[] anyWalk(Random random, SmallRoom small, int mover) {
        int[] walk = new int[random.nextInt(40) == 0 ? 0 : 1 + random.nextInt(30)];
        int cell = small.starts[mover];
        for (int time = 0; time < walk.length; time++) {
            walk[time] = random.nextInt(200) == 0 ? random.nextInt(40) - 20 : cell;
            int to = random.nextInt(small.w * small.h);
            for (int tries = 0; tries < 20 && !isNearer(small, mover, cell, to); tries++) {
                to = random.nextInt(small.w * small.h);
            }
            cell = small.canStep(cell, to) ? to : cell;
        }
        return walk;
    }

    private static boolean isNearer(SmallRoom small, int mover, int cell, int to) {
        return small.canStep(cell, to) && small.distance(mover, to) < small.distance(mover, cell);
    }

    private static int place(int[] told, int time) {
        return told[Math.min(time, told.length - 1)];
    }

    private static int[] wrongOf(SmallRoom small, int[][] told) {
        for (int time = 0; time < 30; time++) {
            for (int mover = 0; mover < told.length; mover++) {
                if (isWrong(small, mover, told[mover], time)) {
                    return new int[] {1, time, mover, -1};
                }
            }
            for (int sort = 2; sort <= 3; sort++) {
                for (int one = 0; one < told.length; one++) {
                    for (int other = one + 1; other < told.length; other++) {
                        if (meet(told[one], told[other], time, sort)) {
                            return new int[] {sort, time, one, other};
                        }
                    }
                }
            }
        }
        return new int[] {0, -1, -1, -1};
    }

    private static boolean isWrong(SmallRoom small, int mover, int[] told, int time) {
        if (told.length == 0 || !small.isFree(place(told, time))) {
            return true;
        }
        if (time == 0 && told[0] != small.starts[mover]) {
            return true;
        }
        if (time > 0 && !small.canStep(place(told, time - 1), place(told, time))) {
            return true;
        }
        return time == 29 && place(told, time) != small.goals[mover];
    }

    private static boolean meet(int[] one, int[] other, int time, int sort) {
        if (sort == 2) {
            return place(one, time) == place(other, time);
        }
        return time > 0 && place(one, time) == place(other, time - 1)
                && place(one, time - 1) == place(other, time);
    }
}
