/** A room in which there is some of all: walls, movers, a plan that was found, one that is laid. */
final class FullRoom {
    private FullRoom() {
    }

    /** Cells 0 1 2 in a row and 4 below 1; movers 0 and 1 change places, which costs 3 more. */
    static MoverRoom made() {
        MoverRoom room = new MoverRoom();
        room.room(3, 2);
        room.wall(3);
        room.wall(5);
        room.mover(0, 2);
        room.mover(2, 0);
        room.solve(6);
        room.lay(0, 0, 0);
        room.lay(0, 1, 1);
        room.lay(1, 0, 2);
        room.lay(1, 1, 1);
        room.lay(5, 29, 77);
        return room;
    }

    /** Looks at all that made() left, and changes none of it. */
    static void isAsMade(Check check, String when, MoverRoom room) {
        check.due(when + ": distance(0)", room.distance(0), 2);
        check.due(when + ": distance(1)", room.distance(1), 2);
        check.due(when + ": distance(2)", room.distance(2), -1);
        check.due(when + ": wall(6)", room.wall(6), -1);
        check.due(when + ": the wall at 3", room.mover(3, 1), -1);
        check.due(when + ": the wall at 5", room.mover(1, 5), -1);
        check.due(when + ": ways(0, 3)", room.ways(0, 3), 2);
        check.due(when + ": cost(0)", room.cost(0), 3);
        check.due(when + ": cost(1)", room.cost(1), 4);
        check.goes(when, room, 0, 0, 0, 1, 2, 2);
        check.goes(when, room, 1, 2, 1, 4, 1, 0);
        isLaid(check, when, room);
        check.judged(when, room, 2, 1, 0, 1);
    }

    /** Looks at the laid plan alone. */
    static void isLaid(Check check, String when, MoverRoom room) {
        check.due(when + ": lay(0, 0, 0)", room.lay(0, 0, 0), 0);
        check.due(when + ": lay(0, 1, 1)", room.lay(0, 1, 1), 1);
        check.due(when + ": lay(1, 0, 2)", room.lay(1, 0, 2), 2);
        check.due(when + ": lay(1, 1, 1)", room.lay(1, 1, 1), 1);
        check.due(when + ": lay(5, 29, 77)", room.lay(5, 29, 77), 77);
    }
}
