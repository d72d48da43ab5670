/** balance: seven sums over all rooms, of which no heat is lost. */
public final class Promise13BalanceTest {
    public static void main(String[] args) {
        arguments();
        sums();
        nothingIsLost();
        Check.end();
    }

    private static void arguments() {
        RoomHours x = new RoomHours();
        Check.argument("7", () -> x.balance(7));
        Check.argument("-1", () -> x.balance(-1));
        Check.argument("least int", () -> x.balance(Integer.MIN_VALUE));
    }

    private static void sums() {
        RoomHours x = new RoomHours();
        x.room(10, 100);
        x.room(20, -50);
        x.wall(0, 1, 200);
        x.wall(0, -1, 300);
        x.wall(1, -1, 100);
        x.outside(0, 30);
        x.window(1, 2, 3, 0);
        x.sun(2, 0, 77);
        x.plan(0, 0, 0, 2);
        x.plan(1, 0, 0, 1);
        x.plan(0, 0, 1, 200);
        x.most(0, 0, 1000);
        x.plan(1, 0, 2, -50);
        x.most(1, 1, 333);
        x.run(1);
        // Room 0: 1000 - 300 - 210 + 200 = 690, 1000 given; room 1: -1000 + 300 + 80 + 23 + 100, 333 taken.
        long[] due = {1690 - 830, 0, 1000, 333, 23, 300, 130};
        for (int what = 0; what < 7; what++) {
            Check.due("balance(" + what + ")", x.balance(what), due[what]);
        }
        Check.due("heat of 0", x.told(0, 1), 1690);
        Check.due("heat of 1", x.told(1, 1), -830);
    }

    private static void nothingIsLost() {
        RoomHours x = new RoomHours();
        for (int i = 0; i < 8; i++) {
            x.room(20 + i * 7, i * 300 - 700);
            x.most(i, 0, 700 + i * 90);
            x.most(i, 1, 900 - i * 60);
            x.window(i, i % 4, i * 13, 1000);
            x.wall(i, -1, 11 + i);
            if (i > 0) {
                x.wall(i - 1, i, 300 + i * 31);
            }
        }
        for (int hour = 0; hour < 24; hour++) {
            x.outside(hour, hour * 97 - 1300);
            x.sun(hour % 4, hour, hour * 37);
            x.plan(hour % 8, hour, 0, hour);
            x.plan(hour % 8, hour, 1, 2000);
            x.plan((hour + 3) % 8, hour, 2, 1000);
        }
        for (int i = 0; i < 40; i++) {
            x.run(1 + i);
            long due = x.balance(1) + x.balance(2) - x.balance(3) + x.balance(4) + x.balance(5) - x.balance(6);
            Check.due("heat after run " + i, x.balance(0), due);
        }
        Check.due("some was given", x.balance(2) > 0 ? 1 : 0, 1);
        Check.due("some was taken", x.balance(3) > 0 ? 1 : 0, 1);
    }
}
