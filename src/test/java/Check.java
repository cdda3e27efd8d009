/** Compares answers with what is due, and ends a test with exit code 1 if one was wrong. */
final class Check {
    private int wrong;
    private int done;

    void due(String call, long got, long want) {
        done++;
        if (got != want) {
            wrong++;
            System.out.println(call + " answered " + got + ", due is " + want);
        }
    }

    void holds(String what, boolean got) {
        due(what, got ? 1 : 0, 1);
    }

    /** The four answers of judge. */
    void judged(String when, MoverRoom room, int sort, int time, int mover, int other) {
        due(when + ": judge(0)", room.judge(0), sort);
        due(when + ": judge(1)", room.judge(1), time);
        due(when + ": judge(2)", room.judge(2), mover);
        due(when + ": judge(3)", room.judge(3), other);
    }

    /** Where a mover is at times 0, 1, .. */
    void goes(String when, MoverRoom room, int mover, int... cells) {
        for (int time = 0; time < cells.length; time++) {
            due(when + ": at(" + mover + ", " + time + ")", room.at(mover, time), cells[time]);
        }
    }

    void end() {
        System.out.println(done + " answers looked at, " + wrong + " wrong");
        if (wrong != 0) {
            System.exit(1);
        }
    }
}
