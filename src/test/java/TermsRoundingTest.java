/** What is rounded down (warmth, sun, shades), and what is rounded to 0 (walls). */
public final class TermsRoundingTest {
    public static void main(String[] args) {
        warmthIsRoundedDown();
        warmthOfTheSmallestAndTheGreatestStore();
        wallsRoundToZero();
        wallsBetweenRoomsRoundToZero();
        wallsAtTheirBounds();
        eachWallRoundsAlone();
        sunIsRoundedDown();
        aQuarterIsRoundedDown();
        aboveTheLimit();
        limitsAtTheirBounds();
        Check.end();
    }

    /** From -30 on, one more with each step. */
    private static void warmthIsRoundedDown() {
        RoomHours x = Houses.withRoom(10, -3);
        x.window(0, 0, 1, 5000);
        for (int hour = 0; hour < 24; hour++) {
            x.sun(0, hour, 10);
        }
        for (int heat = -30; heat < 25; heat++) {
            Check.due("heat", x.told(0, 1), heat);
            long due = heat < -20 ? -3 : heat < -10 ? -2 : heat < 0 ? -1 : heat < 10 ? 0 : heat < 20 ? 1 : 2;
            Check.due("warmth of heat " + heat, x.told(0, 0), due);
            x.run(1);
        }
    }

    private static void warmthOfTheSmallestAndTheGreatestStore() {
        for (int store : new int[] {1, 10000}) {
            RoomHours x = Houses.withRoom(store, 0);
            x.wall(0, RoomHours.OUTSIDE, 1);
            x.outside(0, -100);
            x.run(1);
            Check.due("heat, store " + store, x.told(0, 1), -1);
            Check.due("warmth, store " + store, x.told(0, 0), -1);
        }
    }

    private static final int[][] BY_100 = {
        {-200, -2}, {-199, -1}, {-101, -1}, {-100, -1}, {-99, 0}, {-1, 0}, {0, 0},
        {1, 0}, {99, 0}, {100, 1}, {101, 1}, {199, 1}, {200, 2},
    };

    private static void wallsRoundToZero() {
        for (int[] by : BY_100) {
            RoomHours x = Houses.withRoom(10000, 0);
            x.wall(0, RoomHours.OUTSIDE, 1);
            x.outside(0, -by[0]);
            x.run(1);
            Check.due(by[0] + " hundredths go out as", x.balance(6), by[1]);
            Check.due("the room has lost", -x.told(0, 1), by[1]);
        }
    }

    private static void wallsBetweenRoomsRoundToZero() {
        for (int[] by : BY_100) {
            RoomHours x = new RoomHours();
            x.room(10000, by[0]);
            x.room(10000, 0);
            x.wall(0, 1, 1);
            x.run(1);
            Check.due(by[0] + " hundredths come as", x.told(1, 1), by[1]);
            Check.due("and go so", x.told(0, 1), by[0] * 10000 - by[1]);
            Check.due("none of it goes out", x.balance(6), 0);
        }
    }

    private static void wallsAtTheirBounds() {
        int[][] due = {{0, 0}, {1, 100}, {1000, 100000}};
        for (int[] d : due) {
            RoomHours x = Houses.withRoom(10000, 5000);
            x.wall(0, RoomHours.OUTSIDE, d[0]);
            x.outside(0, -5000);
            x.run(1);
            Check.due("out by LEADS " + d[0], x.balance(6), d[1]);
        }
        RoomHours x = Houses.withRoom(10, 700);
        x.wall(0, RoomHours.OUTSIDE, 1000);
        x.outside(0, -33);
        x.run(1);
        Check.due("with LEADS 100 times STORE it is as outside", x.told(0, 1), -330);
    }

    private static void eachWallRoundsAlone() {
        RoomHours x = Houses.withRoom(10000, 1);
        for (int i = 0; i < 3; i++) {
            x.wall(0, RoomHours.OUTSIDE, 99);
        }
        x.run(1);
        Check.due("three times 0.99", x.balance(6), 0);
    }

    private static long sunThrough(int area, int sun, int limit) {
        RoomHours x = Houses.withRoom(10000, 0);
        x.window(0, 1, area, limit);
        x.sun(1, 0, sun);
        x.run(1);
        Check.due("heat of it", x.told(0, 1), x.balance(4));
        return x.balance(4);
    }

    private static void sunIsRoundedDown() {
        int[][] due = {
            {1, 9, 0}, {1, 10, 1}, {1, 11, 1}, {1, 19, 1}, {1, 20, 2}, {3, 3, 0}, {3, 4, 1},
            {0, 1000, 0}, {100, 0, 0}, {100, 1, 10}, {100, 1000, 10000}, {99, 999, 9890},
        };
        for (int[] d : due) {
            Check.due("AREA " + d[0] + ", SUN " + d[1], sunThrough(d[0], d[1], 0), d[2]);
        }
    }

    private static void aQuarterIsRoundedDown() {
        int[][] due = {
            {1, 9, 0}, {1, 10, 0}, {1, 39, 0}, {1, 40, 1}, {1, 79, 1}, {1, 80, 2}, {100, 1000, 2500}, {99, 999, 2472},
        };
        for (int[] d : due) {
            Check.due("shaded, AREA " + d[0] + ", SUN " + d[1], sunThrough(d[0], d[1], -1), d[2]);
        }
    }

    /** Heat 59 of STORE 10 is warmth 5: not above a LIMIT of 5, though 50 would be enough for it. */
    private static void aboveTheLimit() {
        int[][] due = {{6, 40}, {5, 40}, {4, 10}};
        for (int[] d : due) {
            RoomHours x = Houses.withRoom(10, 5);
            x.window(0, 0, 1, 5000);
            x.sun(0, 0, 90);
            x.run(1);
            x.window(0, 0, 1, d[0]);
            x.sun(0, 0, 400);
            Check.due("heat", x.told(0, 1), 59);
            x.run(1);
            Check.due("LIMIT " + d[0], x.told(0, 1), 59 + 40 + d[1]);
        }
        RoomHours x = Houses.withRoom(10, -5);
        x.window(0, 0, 1, -5);
        x.sun(0, 0, 90);
        x.run(1);
        Check.due("not above -5", x.told(0, 1), -41);
        x.run(1);
        Check.due("-4.1 is -5, not above it", x.told(0, 1), -32);
        x.run(1);
        Check.due("-3.2 is -4, above it", x.told(0, 1), -30);
    }

    private static void limitsAtTheirBounds() {
        int[][] due = {{5000, 5000, 8}, {5000, 4999, 2}, {-5000, -5000, 8}, {-4999, -5000, 2}, {-5000, 5000, 8}};
        for (int[] d : due) {
            RoomHours x = Houses.withRoom(10000, d[0]);
            x.window(0, 0, 1, d[1]);
            x.sun(0, 0, 80);
            x.run(1);
            Check.due("warmth " + d[0] + ", LIMIT " + d[1], x.balance(4), d[2]);
        }
    }
}
