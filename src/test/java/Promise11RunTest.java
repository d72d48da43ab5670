/** run: n steps, how many are over then, 100000 at most. */
public final class Promise11RunTest {
    public static void main(String[] args) {
        answers();
        hundredThousandAtMost();
        stepsAreTheSameInOneRunOrMany();
        Check.end();
    }

    private static void answers() {
        RoomHours x = new RoomHours();
        Check.argument("0", () -> x.run(0));
        Check.argument("-1", () -> x.run(-1));
        Check.argument("401", () -> x.run(401));
        Check.argument("greatest int", () -> x.run(Integer.MAX_VALUE));
        Check.due("1", x.run(1), 1);
        Check.due("400 more", x.run(400), 401);
        Check.due("7 more", x.run(7), 408);
    }

    private static void hundredThousandAtMost() {
        RoomHours x = new RoomHours();
        x.room(10000, 0);
        x.wall(0, -1, 1000);
        x.outside(15, 5000);
        for (int i = 1; i < 250; i++) {
            Check.due("400 more", x.run(400), i * 400);
        }
        Check.due("one short", x.run(399), 99999);
        long heat = x.told(0, 1);
        Check.state("2 are too many", () -> x.run(2));
        Check.state("400 are too many", () -> x.run(400));
        Check.argument("401 are no number of steps", () -> x.run(401));
        Check.due("nothing changed", x.told(0, 1), heat);
        Check.due("the last one", x.run(1), 100000);
        long last = x.told(0, 1);
        Check.state("one more", () -> x.run(1));
        Check.argument("0 more", () -> x.run(0));
        Check.due("nothing changed at the end", x.told(0, 1), last);
        Check.due("a trial may go beyond", x.strong(0, 192), 0);
        Check.due("a trial may go beyond", x.early(0, 3, -5000), 0);
    }

    private static void stepsAreTheSameInOneRunOrMany() {
        RoomHours x = furnished();
        RoomHours y = furnished();
        x.run(200);
        for (int i = 0; i < 40; i++) {
            y.run(5);
        }
        for (int room = 0; room < 2; room++) {
            for (int what = 0; what < 6; what++) {
                Check.due("told(" + room + ", " + what + ")", x.told(room, what), y.told(room, what));
            }
        }
    }

    private static RoomHours furnished() {
        RoomHours x = new RoomHours();
        x.room(70, 1500);
        x.room(30, 900);
        x.wall(0, 1, 90);
        x.wall(1, -1, 35);
        x.window(0, 2, 12, 1600);
        x.most(0, 0, 900);
        x.most(0, 1, 300);
        x.ease(1400, 1700);
        for (int hour = 0; hour < 24; hour++) {
            x.outside(hour, hour * 50 - 300);
            x.sun(2, hour, hour * 11);
            x.plan(0, hour, 0, hour % 3);
            x.plan(0, hour, 1, hour < 6 ? RoomHours.NONE : 1500);
            x.plan(0, hour, 2, 1650);
        }
        return x;
    }
}
