/** A new object: no rooms, no step is over, all that is told by the hours as at first. */
public final class Promise01NewObjectTest {
    public static void main(String[] args) {
        nothingIsThere();
        daysAreEmpty();
        roomsAreEmpty();
        easeIsZero();
        objectsShareNothing();
        Check.due("NONE", RoomHours.NONE, -1000000);
        Check.due("OUTSIDE", RoomHours.OUTSIDE, -1);
        Check.end();
    }

    private static void nothingIsThere() {
        RoomHours x = new RoomHours();
        for (int what = 0; what < 7; what++) {
            Check.due("balance(" + what + ")", x.balance(what), 0);
        }
        Check.argument("told", () -> x.told(0, 0));
        Check.argument("leads", () -> x.leads(0, 0));
        Check.argument("wall", () -> x.wall(0, RoomHours.OUTSIDE, 0));
        Check.argument("window", () -> x.window(0, 0, 0, 0));
        Check.argument("plan", () -> x.plan(0, 0, 0, 0));
        Check.argument("most", () -> x.most(0, 0, 0));
        Check.argument("early", () -> x.early(0, 0, 0));
        Check.argument("strong", () -> x.strong(0, 1));
        Check.due("first run", x.run(1), 1);
        Check.due("first room", x.room(1, 0), 0);
        Check.due("first wall", x.wall(0, RoomHours.OUTSIDE, 0), 0);
        Check.due("first window", x.window(0, 0, 0, 0), 0);
    }

    private static void daysAreEmpty() {
        RoomHours x = new RoomHours();
        for (int hour = 0; hour < 24; hour++) {
            Check.due("outside at first", x.outside(hour, 1), 0);
            for (int side = 0; side < 4; side++) {
                Check.due("sun at first", x.sun(side, hour, 1), 0);
            }
        }
    }

    private static void roomsAreEmpty() {
        RoomHours x = new RoomHours();
        x.room(1, 0);
        x.room(1, 0);
        for (int room = 0; room < 2; room++) {
            for (int hour = 0; hour < 24; hour++) {
                Check.due("persons at first", x.plan(room, hour, 0, 1), 0);
                Check.due("set at first", x.plan(room, hour, 1, 0), RoomHours.NONE);
                Check.due("cool at first", x.plan(room, hour, 2, 0), RoomHours.NONE);
            }
            Check.due("most for heating at first", x.most(room, 0, 1), 0);
            Check.due("most for cooling at first", x.most(room, 1, 1), 0);
        }
    }

    private static void easeIsZero() {
        RoomHours x = new RoomHours();
        for (int warmth = -1; warmth <= 1; warmth++) {
            int room = x.room(10000, warmth);
            x.plan(room, 0, 0, 1);
        }
        x.run(4);
        Check.due("below LOW", x.told(0, 2), 1);
        Check.due("neither", x.told(1, 2), 0);
        Check.due("above HIGH", x.told(2, 2), 1);
    }

    private static void objectsShareNothing() {
        RoomHours x = new RoomHours();
        RoomHours y = new RoomHours();
        x.room(10, 100);
        x.outside(0, 7);
        x.run(5);
        Check.argument("no room in the other", () -> y.told(0, 0));
        Check.due("outside of the other", y.outside(0, 0), 0);
        Check.due("steps of the other", y.run(1), 1);
    }
}
