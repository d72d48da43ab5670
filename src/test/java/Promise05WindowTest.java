/** window: its number, its bounds, twelve at most; sun that comes in, a quarter above LIMIT. */
public final class Promise05WindowTest {
    public static void main(String[] args) {
        arguments();
        twelveAtMost();
        sunComesIn();
        shades();
        shadesByTheBeginning();
        Check.end();
    }

    private static void arguments() {
        RoomHours x = new RoomHours();
        x.room(10, 0);
        Check.argument("no such room", () -> x.window(1, 0, 1, 1));
        Check.argument("OUTSIDE", () -> x.window(-1, 0, 1, 1));
        Check.argument("side 4", () -> x.window(0, 4, 1, 1));
        Check.argument("side -1", () -> x.window(0, -1, 1, 1));
        Check.argument("area -1", () -> x.window(0, 0, -1, 1));
        Check.argument("area 101", () -> x.window(0, 0, 101, 1));
        Check.argument("limit 5001", () -> x.window(0, 0, 1, 5001));
        Check.argument("limit -5001", () -> x.window(0, 0, 1, -5001));
        Check.argument("limit NONE", () -> x.window(0, 0, 1, RoomHours.NONE));
        Check.due("least", x.window(0, 0, 0, -5000), 0);
        Check.due("greatest", x.window(0, 3, 100, 5000), 1);
    }

    private static void twelveAtMost() {
        RoomHours x = new RoomHours();
        x.room(10000, 0);
        for (int i = 0; i < 12; i++) {
            Check.due("window", x.window(0, i % 4, 1, 5000), i);
        }
        Check.state("window 13", () -> x.window(0, 0, 1, 5000));
        Check.argument("window 13 with a wrong side", () -> x.window(0, 4, 1, 5000));
        Check.argument("window 13 with a wrong limit", () -> x.window(0, 0, 1, 5001));
        for (int side = 0; side < 4; side++) {
            x.sun(side, 0, 10);
        }
        x.run(1);
        Check.due("12 bring 1 each", x.balance(4), 12);
    }

    private static void sunComesIn() {
        RoomHours x = new RoomHours();
        x.room(100, 0);
        x.room(100, 0);
        x.window(0, 1, 7, 5000);
        x.window(1, 2, 100, 5000);
        x.sun(1, 0, 33);
        x.sun(2, 1, 1000);
        x.run(1);
        Check.due("23.1 comes as 23", x.told(0, 1), 23);
        Check.due("no sun on the other side yet", x.told(1, 1), 0);
        x.run(3);
        Check.due("an hour of it", x.told(0, 1), 92);
        x.run(1);
        Check.due("then no more", x.told(0, 1), 92);
        Check.due("the other side", x.told(1, 1), 10000);
        Check.due("from sun in all", x.balance(4), 10092);
        Check.due("no other heat", x.balance(0), 10092);
    }

    private static void shades() {
        RoomHours x = new RoomHours();
        x.room(100, 20);
        x.window(0, 0, 9, 20);
        x.window(0, 0, 9, 19);
        x.sun(0, 0, 13);
        x.run(1);
        Check.due("11.7 comes as 11, shaded as 2", x.balance(4), 13);
    }

    private static void shadesByTheBeginning() {
        RoomHours x = new RoomHours();
        x.room(1, 0);
        x.window(0, 0, 100, 0);
        x.window(0, 0, 100, 0);
        x.sun(0, 0, 10);
        x.plan(0, 0, 0, 1);
        x.run(1);
        Check.due("neither is shaded in the first step", x.balance(4), 200);
        x.run(1);
        Check.due("both are in the second", x.balance(4), 250);
    }
}
