/** Promises 11 and 12, sentence by sentence: the edges that each names. */
public final class LaidEdgesTest {
    private static final Check CHECK = new Check();
    private static final int LEAST = Integer.MIN_VALUE;
    private static final int MOST = Integer.MAX_VALUE;

    public static void main(String[] args) {
        firstAndLastMoverAndTime();
        cellsOfAnyKind();
        toldBefore();
        moverOrTimeNotAllowed();
        upToTheFirstUntoldTime();
        toldOfAllTimes();
        staysAtItsLastPlace();
        nowhere();
        notAtItsStart();
        atNoFreeCell();
        fromNoNeighbour();
        notAtItsGoalAtTheEnd();
        twoAtOneCell();
        twoExchanged();
        firstTimeThenSort();
        leastMover();
        leastPair();
        noMoversOrAll();
        whatIsNotAllowed();
        judgedAsItIsNow();
        CHECK.end();
    }

    private static MoverRoom roomOf(int w, int h, int... startsAndGoals) {
        MoverRoom room = new MoverRoom();
        room.room(w, h);
        for (int i = 0; i < startsAndGoals.length; i += 2) {
            CHECK.due("mover", room.mover(startsAndGoals[i], startsAndGoals[i + 1]), i / 2);
        }
        return room;
    }

    private static void layAll(MoverRoom room, int mover, int... cells) {
        for (int time = 0; time < cells.length; time++) {
            room.lay(mover, time, cells[time]);
        }
    }

    private static void isRight(String when, MoverRoom room) {
        CHECK.judged(when, room, 0, -1, -1, -1);
    }

    private static void strays(String when, MoverRoom room, int time, int mover) {
        CHECK.judged(when, room, 1, time, mover, -1);
    }

    /** 11: "a time, 0 .. 29", "the mover .. 0 .. 5": be there such movers or not */
    private static void firstAndLastMoverAndTime() {
        MoverRoom room = new MoverRoom();
        for (int mover : new int[] {0, 5}) {
            for (int time : new int[] {0, 29}) {
                CHECK.due("nothing yet", room.lay(mover, time, 10 + mover + time), -1);
                CHECK.due("told", room.lay(mover, time, 50), 10 + mover + time);
            }
        }
        CHECK.due("of another time nothing", room.lay(0, 28, 1), -1);
        CHECK.due("of another mover nothing", room.lay(4, 29, 1), -1);
    }

    /** 11: "at a cell (be there such, a wall, or not)" */
    private static void cellsOfAnyKind() {
        MoverRoom room = new MoverRoom();
        room.wall(0);
        int[] cells = {0, 1, 24, 25, -2, LEAST, MOST, -1};
        int before = -1;
        for (int cell : cells) {
            CHECK.due("told before " + cell, room.lay(2, 7, cell), before);
            before = cell;
        }
    }

    /** 11: "What was told of that before; NONE for nothing": -1 that was told counts as told */
    private static void toldBefore() {
        MoverRoom room = roomOf(2, 1, 0, 0);
        layAll(room, 0, 0, 0, -1);
        strays("told -1 is not nothing", room, 2, 0);
        CHECK.due("told -1", room.lay(0, 2, 0), -1);
        isRight("told anew", room);
        CHECK.due("told 0", room.lay(0, 2, 1), 0);
        CHECK.due("told 1", room.lay(0, 2, 1), 1);
    }

    /** 11: "NONE .. when the mover is not 0 .. 5, or time not as told": and nothing is told */
    private static void moverOrTimeNotAllowed() {
        MoverRoom room = FullRoom.made();
        for (int wrong : new int[] {-1, 6, 7, 32, LEAST, MOST}) {
            for (int turn = 0; turn < 2; turn++) {
                CHECK.due("lay(" + wrong + ", 0, 4)", room.lay(wrong, 0, 4), -1);
                CHECK.due("lay(" + wrong + ", 29, 4)", room.lay(wrong, 29, 4), -1);
            }
        }
        for (int wrong : new int[] {-1, 30, 31, 32, 33, LEAST, MOST}) {
            for (int turn = 0; turn < 2; turn++) {
                CHECK.due("lay(0, " + wrong + ", 4)", room.lay(0, wrong, 4), -1);
                CHECK.due("lay(5, " + wrong + ", 4)", room.lay(5, wrong, 4), -1);
            }
        }
        FullRoom.isAsMade(CHECK, "not allowed", room);
    }

    /** 12: "up to the first time of which nothing was told" */
    private static void upToTheFirstUntoldTime() {
        MoverRoom room = roomOf(3, 1, 0, 0);
        layAll(room, 0, 0);
        room.lay(0, 2, 77);
        isRight("nothing of time 1", room);
        room.lay(0, 1, 0);
        strays("now of time 1 too", room, 2, 0);
        room = roomOf(3, 1, 0, 0);
        for (int time = 29; time > 0; time--) {
            room.lay(0, time, 2);
            strays("nothing of time 0", room, 0, 0);
        }
        room.lay(0, 0, 0);
        strays("now of time 0 too", room, 1, 0);
    }

    /** 12: "(told of 30 times: all)" */
    private static void toldOfAllTimes() {
        MoverRoom room = roomOf(2, 1, 0, 1);
        for (int time = 0; time < 30; time++) {
            room.lay(0, time, time % 2);
        }
        isRight("to and fro, at its goal at time 29", room);
        room.lay(0, 29, 9);
        strays("time 29 counts", room, 29, 0);
        room.lay(0, 29, 0);
        strays("time 29 counts again", room, 29, 0);
    }

    /** 12: "where it stays at its last place" */
    private static void staysAtItsLastPlace() {
        MoverRoom room = roomOf(3, 1, 1, 1, 0, 0);
        layAll(room, 0, 1);
        layAll(room, 1, 0, 0, 0, 0, 1, 0);
        CHECK.judged("another one comes there", room, 2, 4, 0, 1);
        layAll(room, 1, 0, 0, 0, 0, 0, 0);
        isRight("both stay", room);
    }

    /** 12: "1 a mover is nowhere (nothing was told of time 0)" */
    private static void nowhere() {
        MoverRoom room = roomOf(3, 1, 0, 0, 1, 1, 2, 2);
        strays("all nowhere", room, 0, 0);
        layAll(room, 0, 0);
        layAll(room, 2, 2);
        strays("one nowhere", room, 0, 1);
        layAll(room, 1, 1);
        isRight("none nowhere", room);
    }

    /** 12: "or not at its start at time 0" */
    private static void notAtItsStart() {
        MoverRoom room = roomOf(3, 1, 0, 1);
        for (int cell : new int[] {1, 2, -1, 3, LEAST, MOST}) {
            layAll(room, 0, cell, 1);
            strays("it begins at " + cell, room, 0, 0);
        }
        layAll(room, 0, 0, 1);
        isRight("it begins at its start", room);
    }

    /** 12: "or at no free cell": a wall, or no cell, at the first and the last time for it */
    private static void atNoFreeCell() {
        for (int cell : new int[] {1, -1, 4, 5, 25, LEAST, MOST}) {
            MoverRoom room = new MoverRoom();
            room.room(2, 2);
            room.wall(1);
            room.mover(0, 0);
            layAll(room, 0, 0, cell);
            strays("at " + cell + " at time 1", room, 1, 0);
            for (int time = 1; time < 29; time++) {
                room.lay(0, time, 0);
            }
            room.lay(0, 29, cell);
            strays("at " + cell + " at time 29", room, 29, 0);
        }
    }

    /** 12: "or comes from no neighbour (nor stayed)" */
    private static void fromNoNeighbour() {
        int[] far = {0, 2, 6, 8};
        for (int goal = 0; goal < 9; goal++) {
            MoverRoom room = roomOf(3, 3, 4, goal);
            layAll(room, 0, 4, goal);
            boolean isFar = false;
            for (int cell : far) {
                isFar |= cell == goal;
            }
            CHECK.due("from 4 to " + goal, room.judge(0), isFar ? 1 : 0);
            CHECK.due("from 4 to " + goal + ": time", room.judge(1), isFar ? 1 : -1);
        }
        MoverRoom room = roomOf(3, 2, 2, 3);
        layAll(room, 0, 2, 3);
        strays("round the end of a row", room, 1, 0);
        room = roomOf(3, 2, 3, 2);
        layAll(room, 0, 3, 2);
        strays("and back", room, 1, 0);
    }

    /** 12: "or, at time 29, is not at its goal": but at time 28 it need not be there */
    private static void notAtItsGoalAtTheEnd() {
        MoverRoom room = roomOf(2, 1, 0, 1);
        layAll(room, 0, 0);
        strays("it never goes", room, 29, 0);
        for (int time = 0; time < 29; time++) {
            room.lay(0, time, 0);
        }
        room.lay(0, 29, 1);
        isRight("it comes at time 29", room);
        room.lay(0, 28, 1);
        room.lay(0, 29, 0);
        strays("it leaves at time 29", room, 29, 0);
        room = roomOf(1, 1, 0, 0);
        layAll(room, 0, 0);
        isRight("it is there from the first", room);
    }

    /** 12: "2 two are at the same cell": from time 1 to time 29, starts being different */
    private static void twoAtOneCell() {
        MoverRoom room = roomOf(3, 1, 0, 0, 2, 2);
        layAll(room, 0, 0, 1, 0);
        layAll(room, 1, 2, 1, 2);
        CHECK.judged("at time 1", room, 2, 1, 0, 1);
        room = roomOf(2, 1, 0, 0, 1, 1);
        layAll(room, 0, 0);
        for (int time = 0; time < 29; time++) {
            room.lay(1, time, 1);
        }
        isRight("up to time 28", room);
        room.lay(1, 29, 0);
        strays("at time 29 it is not at its goal either", room, 29, 1);
        room.lay(1, 28, 0);
        CHECK.judged("at time 28", room, 2, 28, 0, 1);
    }

    /** 12: "3 two have exchanged their cells since the time before" */
    private static void twoExchanged() {
        MoverRoom room = roomOf(2, 1, 0, 1, 1, 0);
        layAll(room, 0, 0, 1);
        layAll(room, 1, 1, 0);
        CHECK.judged("at time 1", room, 3, 1, 0, 1);
        for (int time = 0; time < 29; time++) {
            room.lay(0, time, 0);
            room.lay(1, time, 1);
        }
        room.lay(0, 29, 1);
        room.lay(1, 29, 0);
        CHECK.judged("at time 29", room, 3, 29, 0, 1);
        room = roomOf(3, 1, 0, 1, 1, 2);
        layAll(room, 0, 0, 1);
        layAll(room, 1, 1, 2);
        isRight("one behind the other", room);
    }

    /** 12: "wrong at the first time at which, in this order" */
    private static void firstTimeThenSort() {
        MoverRoom room = roomOf(6, 1, 0, 1, 1, 0, 3, 3, 4, 4);
        layAll(room, 0, 0, 1);
        layAll(room, 1, 1, 0);
        layAll(room, 2, 3);
        layAll(room, 3, 4, 3, 4);
        CHECK.judged("2 before 3", room, 2, 1, 2, 3);
        layAll(room, 3, 4, 2, 4);
        strays("1 before 3", room, 1, 3);
        layAll(room, 1, 1, 1, 0);
        layAll(room, 3, 4, 2);
        strays("1 before 2", room, 1, 3);
        layAll(room, 3, 4, 4, 2);
        CHECK.judged("time 1 before time 2", room, 2, 1, 0, 1);
        layAll(room, 1, 1, 0, 0);
        CHECK.judged("time 1 before time 2, of sort 3 too", room, 3, 1, 0, 1);
    }

    /** 12: "Of one time and sort it is the least mover" */
    private static void leastMover() {
        MoverRoom room = roomOf(3, 2, 0, 0, 1, 1, 2, 2, 3, 3, 4, 4);
        for (int mover = 4; mover >= 0; mover--) {
            layAll(room, mover, mover, 9);
        }
        for (int mover = 0; mover < 5; mover++) {
            strays("those before are right", room, 1, mover);
            layAll(room, mover, mover, mover);
        }
        isRight("all are right", room);
    }

    /** 12: "or the least pair by its lesser one and then by its greater one" */
    private static void leastPair() {
        MoverRoom room = roomOf(5, 1, 2, 2, 1, 1, 3, 3);
        layAll(room, 0, 2);
        layAll(room, 1, 1, 2, 1);
        layAll(room, 2, 3, 2, 3);
        CHECK.judged("three at one cell", room, 2, 1, 0, 1);
        layAll(room, 1, 1, 1, 1);
        CHECK.judged("the first and the last", room, 2, 1, 0, 2);
        layAll(room, 0, 2, 1, 2);
        layAll(room, 1, 1, 2, 1);
        CHECK.judged("the lesser one alone would be 0", room, 2, 1, 1, 2);
        room = roomOf(3, 2, 0, 0, 1, 1, 2, 2, 3, 3);
        layAll(room, 0, 0, 3, 0);
        layAll(room, 1, 1, 2, 1);
        layAll(room, 2, 2, 1, 2);
        layAll(room, 3, 3, 0, 3);
        CHECK.judged("of two exchanges", room, 3, 1, 0, 3);
        layAll(room, 0, 0, 0, 0);
        layAll(room, 3, 3, 3, 3);
        CHECK.judged("the other one", room, 3, 1, 1, 2);
    }

    /** 12: no mover, and as many as there may be; what is told of others does not count */
    private static void noMoversOrAll() {
        MoverRoom room = roomOf(3, 2);
        isRight("no mover", room);
        layAll(room, 0, 77, 78);
        layAll(room, 5, 77, 78);
        isRight("no mover, but a plan", room);
        room = roomOf(3, 2, 0, 1, 1, 2, 2, 5, 5, 4, 4, 3);
        layAll(room, 0, 0, 1);
        layAll(room, 1, 1, 2);
        layAll(room, 2, 2, 5);
        layAll(room, 3, 5, 4);
        strays("the last of five", room, 0, 4);
        layAll(room, 4, 4, 3);
        isRight("five go round", room);
        layAll(room, 5, 77);
        isRight("of a sixth that is not there", room);
        room = roomOf(3, 2, 0, 0, 1, 1, 2, 2, 3, 3, 4, 5);
        for (int mover = 0; mover < 5; mover++) {
            layAll(room, mover, mover);
        }
        strays("the last of five is not at its goal", room, 29, 4);
        layAll(room, 3, 3, 4, 3);
        layAll(room, 4, 4, 3, 4, 5);
        CHECK.judged("the last two of five exchange", room, 3, 1, 3, 4);
        layAll(room, 4, 4, 4, 4, 5);
        CHECK.judged("the last two of five at one cell", room, 2, 1, 3, 4);
    }

    /** 12: "NONE for others." */
    private static void whatIsNotAllowed() {
        MoverRoom wrong = FullRoom.made();
        MoverRoom right = roomOf(1, 1);
        for (int what : new int[] {-1, 4, 5, 29, LEAST, MOST}) {
            CHECK.due("wrong: judge(" + what + ")", wrong.judge(what), -1);
            CHECK.due("right: judge(" + what + ")", right.judge(what), -1);
        }
        FullRoom.isAsMade(CHECK, "judged", wrong);
        isRight("judged", right);
    }

    /** 12: by the room, the walls and the movers that are there now */
    private static void judgedAsItIsNow() {
        MoverRoom room = roomOf(3, 1, 0, 2);
        layAll(room, 0, 0, 1, 2);
        isRight("as it is", room);
        room.clear();
        room.mover(0, 1);
        strays("another goal", room, 29, 0);
        room.clear();
        room.mover(1, 2);
        strays("another start", room, 0, 0);
        room.wall(1);
        room.mover(0, 2);
        strays("a wall in the way", room, 1, 0);
        room.wall(1);
        room.mover(0, 2);
        isRight("free again", room);
        room.room(3, 1);
        isRight("a new room, no mover", room);
        room.mover(0, 2);
        strays("a new room, nothing laid", room, 0, 0);
    }
}
