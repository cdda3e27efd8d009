import java.util.Arrays;
import java.util.Random;

/** A room with movers as the document tells it, for tests that go through all there is. */
final class SmallRoom {
    final int w;
    final int h;
    final boolean[] walls;
    int[] starts = {};
    int[] goals = {};

    SmallRoom(int w, int h) {
        this.w = w;
        this.h = h;
        walls = new boolean[w * h];
    }

    /** A room by chance with at most so many cells, and at most so many movers. */
    static SmallRoom any(Random random, int mostCells, int mostMovers) {
        int w;
        int h;
        do {
            w = 1 + random.nextInt(6);
            h = 1 + random.nextInt(6);
        } while (w * h > mostCells || w * h < 2);
        SmallRoom small = new SmallRoom(w, h);
        int walls = random.nextInt(2) * random.nextInt(1 + w * h / 2);
        for (int i = 0; i < walls; i++) {
            small.walls[random.nextInt(w * h)] = true;
        }
        for (int tries = 0; tries < 40 && small.movers() < mostMovers; tries++) {
            small.add(random.nextInt(w * h), random.nextInt(w * h));
        }
        return small;
    }

    int movers() {
        return starts.length;
    }

    /** False, and no new mover, when the document does not allow it. */
    boolean add(int start, int goal) {
        int count = movers();
        if (!isFree(start) || !isFree(goal) || Math.pow(free(), count + 1) > 16000) {
            return false;
        }
        for (int mover = 0; mover < count; mover++) {
            if (starts[mover] == start || goals[mover] == goal) {
                return false;
            }
        }
        starts = Arrays.copyOf(starts, count + 1);
        goals = Arrays.copyOf(goals, count + 1);
        starts[count] = start;
        goals[count] = goal;
        return true;
    }

    void dismiss() {
        starts = new int[0];
        goals = new int[0];
    }

    int free() {
        int free = 0;
        for (boolean wall : walls) {
            free += wall ? 0 : 1;
        }
        return free;
    }

    boolean isFree(int cell) {
        return cell >= 0 && cell < w * h && !walls[cell];
    }

    /** Whether both are free, and the same or beside one another. */
    boolean canStep(int from, int to) {
        return isFree(from) && isFree(to)
                && Math.abs(from % w - to % w) + Math.abs(from / w - to / w) <= 1;
    }

    /** How far a mover's goal is from a cell; a number above all others when there is no way. */
    int distance(int mover, int cell) {
        int[] far = new int[w * h];
        Arrays.fill(far, 1000);
        far[goals[mover]] = 0;
        for (int round = 0; round < w * h; round++) {
            for (int one = 0; one < w * h; one++) {
                for (int other = 0; other < w * h; other++) {
                    if (canStep(one, other)) {
                        far[one] = Math.min(far[one], far[other] + 1);
                    }
                }
            }
        }
        return far[cell];
    }

    MoverRoom made() {
        MoverRoom room = new MoverRoom();
        room.room(w, h);
        for (int cell = 0; cell < w * h; cell++) {
            if (walls[cell]) {
                room.wall(cell);
            }
        }
        for (int mover = 0; mover < movers(); mover++) {
            if (room.mover(starts[mover], goals[mover]) != mover) {
                throw new IllegalStateException("mover refused in " + this);
            }
        }
        return room;
    }

    @Override
    public String toString() {
        StringBuilder text = new StringBuilder(w + "x" + h + " walls");
        for (int cell = 0; cell < w * h; cell++) {
            text.append(walls[cell] ? " " + cell : "");
        }
        for (int mover = 0; mover < movers(); mover++) {
            text.append(", ").append(starts[mover]).append("->").append(goals[mover]);
        }
        return text.toString();
    }
}
