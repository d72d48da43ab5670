/** room: its number, its bounds, eight at most. */
public final class Promise02RoomTest {
    public static void main(String[] args) {
        numbersAndHeat();
        bounds();
        eightAtMost();
        roomsComeLater();
        Check.end();
    }

    private static void numbersAndHeat() {
        RoomHours x = new RoomHours();
        Check.due("first", x.room(3, 7), 0);
        Check.due("second", x.room(40, -7), 1);
        Check.due("heat", x.told(0, 1), 21);
        Check.due("warmth", x.told(0, 0), 7);
        Check.due("heat below 0", x.told(1, 1), -280);
        Check.due("warmth below 0", x.told(1, 0), -7);
    }

    private static void bounds() {
        RoomHours x = new RoomHours();
        Check.argument("store 0", () -> x.room(0, 0));
        Check.argument("store -1", () -> x.room(-1, 0));
        Check.argument("store 10001", () -> x.room(10001, 0));
        Check.argument("store least int", () -> x.room(Integer.MIN_VALUE, 0));
        Check.argument("warmth 5001", () -> x.room(1, 5001));
        Check.argument("warmth -5001", () -> x.room(1, -5001));
        Check.argument("warmth NONE", () -> x.room(1, RoomHours.NONE));
        Check.due("still no heat", x.balance(1), 0);
        Check.due("store 1", x.room(1, -5000), 0);
        Check.due("store 10000", x.room(10000, 5000), 1);
        Check.due("least heat", x.told(0, 1), -5000);
        Check.due("greatest heat", x.told(1, 1), 50000000);
    }

    private static void eightAtMost() {
        RoomHours x = new RoomHours();
        for (int i = 0; i < 8; i++) {
            Check.due("room", x.room(10, i), i);
        }
        Check.state("ninth", () -> x.room(10, 0));
        Check.argument("ninth with a wrong store", () -> x.room(0, 0));
        Check.argument("ninth with a wrong warmth", () -> x.room(10, 5001));
        Check.argument("there is no ninth", () -> x.told(8, 0));
        Check.due("heat of eight", x.balance(0), 280);
        Check.due("they began so", x.balance(1), 280);
    }

    private static void roomsComeLater() {
        RoomHours x = new RoomHours();
        x.room(10, 100);
        x.wall(0, RoomHours.OUTSIDE, 100);
        x.run(3);
        Check.due("heat after 3 steps", x.balance(0), 1000 - 100 - 90 - 81);
        x.room(5, 20);
        Check.due("heat with the new one", x.balance(0), 1000 - 100 - 90 - 81 + 100);
        Check.due("they began with", x.balance(1), 1100);
        Check.due("steps go on", x.run(1), 4);
    }
}
