/** outside: what it was, by the hours of a day that come again each day. */
public final class Promise06OutsideTest {
    public static void main(String[] args) {
        answers();
        arguments();
        comesAgainEachDay();
        Check.end();
    }

    private static void answers() {
        RoomHours x = new RoomHours();
        for (int hour = 0; hour < 24; hour++) {
            Check.due("first", x.outside(hour, hour * 10), 0);
        }
        for (int hour = 0; hour < 24; hour++) {
            Check.due("each hour has its own", x.outside(hour, 0), hour * 10);
        }
    }

    private static void arguments() {
        RoomHours x = new RoomHours();
        x.outside(23, 9);
        Check.argument("hour 24", () -> x.outside(24, 0));
        Check.argument("hour -1", () -> x.outside(-1, 0));
        Check.argument("warmth 5001", () -> x.outside(23, 5001));
        Check.argument("warmth -5001", () -> x.outside(23, -5001));
        Check.argument("warmth NONE", () -> x.outside(23, RoomHours.NONE));
        Check.due("not changed", x.outside(23, 5000), 9);
        Check.due("5000", x.outside(23, -5000), 5000);
        Check.due("-5000", x.outside(23, 0), -5000);
    }

    private static void comesAgainEachDay() {
        RoomHours x = new RoomHours();
        x.room(10000, 0);
        x.wall(0, -1, 100);
        x.outside(23, 100);
        x.run(92);
        Check.due("before hour 23", x.told(0, 1), 0);
        x.run(4);
        Check.due("after it", x.told(0, 1), 400);
        x.run(92);
        Check.due("before it on the next day", x.told(0, 1), 400);
        x.run(4);
        Check.due("after it on the next day", x.told(0, 1), 800);
    }
}
