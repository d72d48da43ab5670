/** most: what it was; its bounds; a step gives and takes no more than it. */
public final class Promise09MostTest {
    public static void main(String[] args) {
        answers();
        arguments();
        eachHasItsOwn();
        Check.end();
    }

    private static void answers() {
        RoomHours x = new RoomHours();
        x.room(1, 0);
        Check.due("heating at first", x.most(0, 0, 5), 0);
        Check.due("cooling at first", x.most(0, 1, 6), 0);
        Check.due("heating", x.most(0, 0, 1000000), 5);
        Check.due("cooling", x.most(0, 1, 1000000), 6);
        Check.due("heating at most", x.most(0, 0, 0), 1000000);
        Check.due("cooling at most", x.most(0, 1, 0), 1000000);
    }

    private static void arguments() {
        RoomHours x = new RoomHours();
        x.room(1, 0);
        x.most(0, 0, 3);
        x.most(0, 1, 4);
        Check.argument("no such room", () -> x.most(1, 0, 0));
        Check.argument("room -1", () -> x.most(-1, 0, 0));
        Check.argument("what 2", () -> x.most(0, 2, 0));
        Check.argument("what -1", () -> x.most(0, -1, 0));
        Check.argument("1000001", () -> x.most(0, 0, 1000001));
        Check.argument("-1", () -> x.most(0, 1, -1));
        Check.argument("NONE", () -> x.most(0, 1, RoomHours.NONE));
        Check.due("heating not changed", x.most(0, 0, 0), 3);
        Check.due("cooling not changed", x.most(0, 1, 0), 4);
    }

    private static void eachHasItsOwn() {
        RoomHours x = new RoomHours();
        for (int room = 0; room < 2; room++) {
            x.room(1000, 0);
            x.plan(room, 0, 1, 5000);
            x.plan(room, 1, 2, -5000);
            x.most(room, 0, 11 + room);
            x.most(room, 1, 101 + room);
        }
        x.run(8);
        Check.due("given to 0", x.told(0, 3), 44);
        Check.due("given to 1", x.told(1, 3), 48);
        Check.due("taken from 0", x.told(0, 4), 404);
        Check.due("taken from 1", x.told(1, 4), 408);
    }
}
