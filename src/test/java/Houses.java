/** Houses that several tests begin with. */
final class Houses {
    /** Rooms and walls of the lived-in house. */
    static final int ROOMS = 3;
    static final int WALLS = 2;

    private Houses() {
    }

    /**
     * Three rooms with all that can be told, one step over; one is at LOW and HIGH, one just below,
     * one just above, so that each change of them shows.
     */
    static RoomHours livedIn() {
        RoomHours x = new RoomHours();
        x.room(10000, 7);
        x.room(9000, 6);
        x.room(8000, 8);
        x.wall(0, 1, 100);
        x.wall(1, RoomHours.OUTSIDE, 50);
        x.window(0, 2, 50, 6);
        x.outside(0, 9);
        x.sun(2, 0, 20);
        for (int room = 0; room < ROOMS; room++) {
            x.plan(room, 0, 0, 1);
            x.plan(room, 1, 0, 2);
        }
        x.plan(0, 0, 1, 8);
        x.plan(2, 0, 2, 8);
        x.most(0, 0, 10);
        x.most(2, 1, 20);
        x.ease(7, 7);
        x.run(1);
        return x;
    }

    /** As many rooms, walls, windows and LEADS at room 0 as there may be. */
    static RoomHours built() {
        RoomHours x = new RoomHours();
        for (int room = 0; room < 8; room++) {
            x.room(1 + room * 100, 100);
        }
        x.wall(0, RoomHours.OUTSIDE, 100);
        for (int wall = 1; wall < 20; wall++) {
            x.wall(1 + wall % 7, RoomHours.OUTSIDE, 5);
        }
        for (int window = 0; window < 12; window++) {
            x.window(window % 8, window % 4, 3, 50);
        }
        return x;
    }

    /** The built house with all steps over. */
    static RoomHours full() {
        RoomHours x = built();
        toTheLast(x);
        return x;
    }

    /** All the steps that a new object may do. */
    static void toTheLast(RoomHours x) {
        for (int i = 0; i < 250; i++) {
            x.run(400);
        }
    }

    /** A room with a STORE and a warmth, alone. */
    static RoomHours withRoom(int store, int warmth) {
        RoomHours x = new RoomHours();
        x.room(store, warmth);
        return x;
    }
}
