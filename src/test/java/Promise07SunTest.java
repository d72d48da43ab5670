/** sun: what it was, by side and hour. */
public final class Promise07SunTest {
    public static void main(String[] args) {
        answers();
        arguments();
        comesAgainEachDay();
        Check.end();
    }

    private static void answers() {
        RoomHours x = new RoomHours();
        for (int i = 0; i < 96; i++) {
            Check.due("first", x.sun(i / 24, i % 24, i * 10), 0);
        }
        for (int i = 0; i < 96; i++) {
            Check.due("each has its own", x.sun(i / 24, i % 24, 0), i * 10);
        }
    }

    private static void arguments() {
        RoomHours x = new RoomHours();
        x.sun(3, 23, 9);
        Check.argument("side 4", () -> x.sun(4, 0, 0));
        Check.argument("side -1", () -> x.sun(-1, 0, 0));
        Check.argument("hour 24", () -> x.sun(3, 24, 0));
        Check.argument("hour -1", () -> x.sun(3, -1, 0));
        Check.argument("sun 1001", () -> x.sun(3, 23, 1001));
        Check.argument("sun -1", () -> x.sun(3, 23, -1));
        Check.argument("sun NONE", () -> x.sun(3, 23, RoomHours.NONE));
        Check.due("not changed", x.sun(3, 23, 1000), 9);
        Check.due("1000", x.sun(3, 23, 0), 1000);
    }

    private static void comesAgainEachDay() {
        RoomHours x = new RoomHours();
        x.room(10000, 0);
        x.window(0, 3, 1, 5000);
        x.sun(3, 5, 10);
        x.run(20);
        Check.due("before hour 5", x.balance(4), 0);
        x.run(4);
        Check.due("after it", x.balance(4), 4);
        x.run(96);
        Check.due("a day later", x.balance(4), 8);
    }
}
