/** wall: its number, its bounds, twenty at most, LEADS at a room at most 100 times its STORE. */
public final class Promise03WallTest {
    public static void main(String[] args) {
        arguments();
        leadsAtBothRooms();
        twentyAtMost();
        heatGoesByWarmthsOfTheBeginning();
        roundsToZero();
        outsideByTheHour();
        Check.end();
    }

    private static void arguments() {
        RoomHours x = new RoomHours();
        x.room(10, 0);
        x.room(10, 0);
        Check.argument("both are one", () -> x.wall(1, 1, 5));
        Check.argument("OUTSIDE to OUTSIDE", () -> x.wall(-1, -1, 5));
        Check.argument("from OUTSIDE", () -> x.wall(-1, 0, 5));
        Check.argument("no such room", () -> x.wall(2, 0, 5));
        Check.argument("no such other", () -> x.wall(0, 2, 5));
        Check.argument("other -2", () -> x.wall(0, -2, 5));
        Check.argument("other NONE", () -> x.wall(0, RoomHours.NONE, 5));
        Check.argument("leads -1", () -> x.wall(0, 1, -1));
        Check.argument("leads 1001", () -> x.wall(0, 1, 1001));
        Check.argument("no wall came of it", () -> x.leads(0, 0));
        Check.due("leads 0", x.wall(0, 1, 0), 0);
        Check.due("leads 1000", x.wall(1, RoomHours.OUTSIDE, 1000), 1);
        Check.due("the same rooms again", x.wall(0, 1, 0), 2);
        Check.due("the other way", x.wall(1, 0, 0), 3);
    }

    private static void leadsAtBothRooms() {
        RoomHours x = new RoomHours();
        x.room(1, 0);
        x.room(2, 0);
        Check.state("101 at store 1", () -> x.wall(0, -1, 101));
        Check.argument("1001 at store 1", () -> x.wall(0, -1, 1001));
        Check.due("60 between", x.wall(1, 0, 60), 0);
        Check.state("41 more at the other", () -> x.wall(1, 0, 41));
        Check.state("41 more at the first", () -> x.wall(0, 1, 41));
        Check.due("40 more", x.wall(0, -1, 40), 1);
        Check.state("1 more", () -> x.wall(0, -1, 1));
        Check.due("0 more", x.wall(0, 1, 0), 2);
        Check.state("141 more at the greater", () -> x.wall(1, -1, 141));
        Check.due("140 more at the greater", x.wall(1, -1, 140), 3);
        Check.state("the greater is full too", () -> x.wall(1, -1, 1));
    }

    private static void twentyAtMost() {
        RoomHours x = new RoomHours();
        x.room(10000, 100);
        for (int i = 0; i < 20; i++) {
            Check.due("wall", x.wall(0, -1, 1), i);
        }
        Check.state("wall 21", () -> x.wall(0, -1, 1));
        Check.argument("wall 21 to itself", () -> x.wall(0, 0, 1));
        Check.argument("wall 21 with wrong leads", () -> x.wall(0, -1, -1));
        x.run(1);
        Check.due("out through 20 walls", x.balance(6), 20);
    }

    private static void heatGoesByWarmthsOfTheBeginning() {
        RoomHours x = new RoomHours();
        x.room(10, 1000);
        x.room(10, 0);
        x.room(10, 0);
        x.wall(0, 1, 500);
        x.wall(1, 2, 500);
        x.run(1);
        Check.due("the warm one", x.told(0, 1), 5000);
        Check.due("the middle one", x.told(1, 1), 5000);
        Check.due("the last one, not reached yet", x.told(2, 1), 0);
        x.run(1);
        Check.due("the warm one has its like beside it", x.told(0, 1), 5000);
        Check.due("the middle one hands on", x.told(1, 1), 2500);
        Check.due("the last one is reached", x.told(2, 1), 2500);
    }

    private static void roundsToZero() {
        RoomHours x = new RoomHours();
        x.room(10, 3);
        x.room(10, 0);
        x.wall(0, 1, 50);
        x.wall(1, 0, 50);
        x.wall(0, 1, 33);
        x.run(1);
        Check.due("1.5 twice and 0.99 go as 1, 1 and 0", x.told(0, 1), 28);
        Check.due("and come so", x.told(1, 1), 2);
        Check.due("2.8 is warmth 2", x.told(0, 0), 2);
    }

    private static void outsideByTheHour() {
        RoomHours x = new RoomHours();
        x.room(100, 0);
        x.wall(0, RoomHours.OUTSIDE, 10);
        x.outside(1, 1005);
        x.outside(2, -1005);
        x.run(4);
        Check.due("hour 0", x.told(0, 1), 0);
        x.run(1);
        Check.due("100.5 comes in as 100", x.told(0, 1), 100);
        Check.due("less what came in", x.balance(6), -100);
        x.run(3);
        Check.due("hour 1", x.told(0, 1), 400);
        x.run(1);
        Check.due("hour 2: 100.9 goes out", x.told(0, 1), 300);
        Check.due("in all", x.balance(6), -300);
    }
}
