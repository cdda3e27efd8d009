import java.util.Random;

/** Whole runs of calls, each answer compared with the one of the document told again (Twin). */
public final class TwinTest {
    private static final Check CHECK = new Check();
    private static final int[] ODD = {
        Integer.MIN_VALUE, -2, -1, 6, 7, 20, 21, 24, 25, 29, 30, 31, Integer.MAX_VALUE
    };

    private final MoverRoom room = new MoverRoom();
    private final Twin twin = new Twin();
    private final Random random;
    private final String name;
    private final int mostWide;
    private int calls;
    private int cells = 1;

    private TwinTest(int seed, int mostWide) {
        random = new Random(seed);
        name = "run " + seed + ", ";
        this.mostWide = mostWide;
    }

    public static void main(String[] args) {
        for (int seed = 0; seed < 120; seed++) {
            new TwinTest(seed, 3).callMany();
        }
        for (int seed = 120; seed < 140; seed++) {
            new TwinTest(seed, 6).callMany();
        }
        CHECK.end();
    }

    private void callMany() {
        while (calls < 512) {
            switch (random.nextInt(12)) {
                case 0:
                    furnish();
                    break;
                case 1:
                    wall(any(cells));
                    break;
                case 2:
                    clear();
                    break;
                case 3:
                    mover(any(cells), any(cells));
                    break;
                case 4:
                case 5:
                case 6:
                    plan();
                    break;
                case 7:
                    layPlan();
                    break;
                default:
                    ask();
            }
        }
    }

    /** A room with walls, and movers until one is refused. */
    private void furnish() {
        room(1 + random.nextInt(mostWide), 1 + random.nextInt(mostWide));
        for (int walls = random.nextInt(2) * random.nextInt(1 + cells / 2); walls > 0; walls--) {
            wall(random.nextInt(cells));
        }
        for (int more = 1 + random.nextInt(8); more > 0; more--) {
            mover(random.nextInt(cells), random.nextInt(cells));
        }
    }

    private void plan() {
        solve(any(7));
        for (int times = random.nextInt(8); times > 0; times--) {
            cost(any(6));
            at(any(6), any(16));
        }
    }

    /** Lays what solve() found, and then perhaps one place otherwise. */
    private void layPlan() {
        if (solve(6) < 0) {
            return;
        }
        for (int mover = 0; mover < twin.movers(); mover++) {
            for (int time = 0; time <= twin.cost(mover); time++) {
                lay(mover, time, twin.at(mover, time));
            }
        }
        judge();
        lay(any(5), random.nextInt(8), any(cells));
        judge();
    }

    private void ask() {
        switch (random.nextInt(6)) {
            case 0:
                distance(any(6));
                break;
            case 1:
                ways(any(6), any(22));
                break;
            case 2:
                cost(any(6));
                break;
            case 3:
                at(any(6), any(40));
                break;
            case 4:
                lay(any(6), any(30), any(cells));
                break;
            default:
                judge();
        }
    }

    private int any(int below) {
        return random.nextInt(15) == 0 ? ODD[random.nextInt(ODD.length)] : random.nextInt(below);
    }

    /** Behind its 512th call an object may answer what it likes. */
    private void due(String call, long got, long want) {
        calls++;
        if (calls <= 512) {
            CHECK.due(name + "call " + calls + ": " + call, got, want);
        }
    }

    private void room(int w, int h) {
        int answer = twin.room(w, h);
        due("room(" + w + ", " + h + ")", room.room(w, h), answer);
        cells = answer < 0 ? cells : answer;
    }

    private void wall(int cell) {
        due("wall(" + cell + ")", room.wall(cell), twin.wall(cell));
    }

    private void mover(int start, int goal) {
        due("mover(" + start + ", " + goal + ")", room.mover(start, goal), twin.mover(start, goal));
    }

    private void clear() {
        due("clear()", room.clear(), twin.clear());
    }

    private void distance(int mover) {
        due("distance(" + mover + ")", room.distance(mover), twin.distance(mover));
    }

    private void ways(int mover, int c) {
        due("ways(" + mover + ", " + c + ")", room.ways(mover, c), twin.ways(mover, c));
    }

    private int solve(int more) {
        int sum = twin.solve(more);
        due("solve(" + more + ")", room.solve(more), sum);
        return sum;
    }

    private void cost(int mover) {
        due("cost(" + mover + ")", room.cost(mover), twin.cost(mover));
    }

    private void at(int mover, int time) {
        due("at(" + mover + ", " + time + ")", room.at(mover, time), twin.at(mover, time));
    }

    private void lay(int mover, int time, int cell) {
        due("lay(" + mover + ", " + time + ", " + cell + ")",
                room.lay(mover, time, cell), twin.lay(mover, time, cell));
    }

    private void judge() {
        for (int what = -1; what <= 4; what++) {
            due("judge(" + what + ")", room.judge(what), twin.judge(what));
        }
    }
}
