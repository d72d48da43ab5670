/** told: WARMTH, HEAT, UNEASY hours, GIVEN, TAKEN and the greatest given, of each room. */
public final class Promise12ToldTest {
    public static void main(String[] args) {
        arguments();
        warmthRoundsDown();
        greatestOfOneStep();
        sumsOfEachRoom();
        heatBeyondAnInt();
        Check.end();
    }

    private static void arguments() {
        RoomHours x = new RoomHours();
        x.room(1, 0);
        Check.argument("no such room", () -> x.told(1, 0));
        Check.argument("room -1", () -> x.told(-1, 0));
        Check.argument("room 8", () -> x.told(8, 0));
        Check.argument("what 6", () -> x.told(0, 6));
        Check.argument("what -1", () -> x.told(0, -1));
        for (int what = 0; what < 6; what++) {
            Check.due("at first", x.told(0, what), 0);
        }
    }

    private static void warmthRoundsDown() {
        RoomHours x = new RoomHours();
        x.room(10, 0);
        x.wall(0, -1, 1);
        x.outside(0, -100);
        x.run(1);
        Check.due("heat", x.told(0, 1), -1);
        Check.due("-0.1 is -1", x.told(0, 0), -1);
        x.outside(0, 5000);
        x.run(1);
        Check.due("heat above 0", x.told(0, 1), 49);
        Check.due("4.9 is 4", x.told(0, 0), 4);
    }

    private static void greatestOfOneStep() {
        RoomHours x = new RoomHours();
        x.room(10, 0);
        x.most(0, 0, 300);
        x.plan(0, 0, 1, 50);
        x.run(1);
        Check.due("first", x.told(0, 5), 300);
        x.run(1);
        Check.due("200 is less", x.told(0, 5), 300);
        x.plan(0, 0, 1, 150);
        x.most(0, 0, 450);
        x.run(1);
        Check.due("more", x.told(0, 5), 450);
        Check.due("in all", x.told(0, 3), 950);
    }

    private static void sumsOfEachRoom() {
        RoomHours x = new RoomHours();
        x.room(10, 0);
        x.room(20, 100);
        x.most(0, 0, 30);
        x.most(1, 1, 70);
        x.plan(0, 0, 1, 100);
        x.plan(1, 0, 2, 0);
        x.run(3);
        long[][] due = {{9, 90, 0, 90, 0, 30}, {89, 1790, 0, 0, 210, 0}};
        for (int room = 0; room < 2; room++) {
            for (int what = 0; what < 6; what++) {
                Check.due("told(" + room + ", " + what + ")", x.told(room, what), due[room][what]);
            }
        }
    }

    private static void heatBeyondAnInt() {
        RoomHours x = new RoomHours();
        x.room(1, 5000);
        for (int i = 0; i < 12; i++) {
            x.window(0, 0, 100, 5000);
        }
        for (int hour = 0; hour < 24; hour++) {
            x.sun(0, hour, 1000);
            x.plan(0, hour, 0, 100);
        }
        for (int i = 0; i < 250; i++) {
            x.run(400);
        }
        long due = 5000 + 120000 + 99999L * 30000 + 100000L * 10000;
        Check.due("heat", x.told(0, 1), due);
        Check.due("warmth", x.told(0, 0), due);
        Check.due("uneasy", x.told(0, 2), 25000);
    }
}
