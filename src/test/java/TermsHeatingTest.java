/**
 * "Each room that has a SET warmth and less HEAT than STORE times that: the heater GIVES what is
 * lacking, MOST at most", and "more HEAT": "what is too much is TAKEN, its MOST at most".
 */
public final class TermsHeatingTest {
    private static final int STORE = 10;
    private static final int MOST = 7;

    public static void main(String[] args) {
        whatIsLacking();
        whatIsTooMuch();
        byHeatNotByWarmth();
        warmthsAtTheirBounds();
        mostAtItsBounds();
        afterAllThatComesByItself();
        heaterFirstThenCooler();
        eachRoomByItself();
        Check.end();
    }

    /** A room of heat 0, to which a wall brings so much in the first step, ahead of heater and cooler. */
    private static RoomHours near(int heat) {
        RoomHours x = Houses.withRoom(STORE, 0);
        x.wall(0, RoomHours.OUTSIDE, 1);
        x.outside(0, heat * 100);
        x.most(0, 0, MOST);
        x.most(0, 1, MOST);
        return x;
    }

    private static void whatIsLacking() {
        int[][] due = {{1, 0}, {0, 0}, {-1, 1}, {-6, 6}, {-7, 7}, {-8, 7}, {-20, 7}};
        for (int[] d : due) {
            RoomHours x = near(d[0]);
            x.plan(0, 0, 1, 0);
            x.run(1);
            Check.due("given to heat " + d[0], x.told(0, 3), d[1]);
            Check.due("then heat is", x.told(0, 1), d[0] + d[1]);
            Check.due("none is taken", x.told(0, 4), 0);
        }
    }

    private static void whatIsTooMuch() {
        int[][] due = {{-1, 0}, {0, 0}, {1, 1}, {6, 6}, {7, 7}, {8, 7}, {20, 7}};
        for (int[] d : due) {
            RoomHours x = near(d[0]);
            x.plan(0, 0, 2, 0);
            x.run(1);
            Check.due("taken from heat " + d[0], x.told(0, 4), d[1]);
            Check.due("then heat is", x.told(0, 1), d[0] - d[1]);
            Check.due("none is given", x.told(0, 3), 0);
        }
    }

    /** Warmth 0 is there with a heat of 1 to 9 too; that is too much for COOL 0 and lacks for SET 1. */
    private static void byHeatNotByWarmth() {
        RoomHours x = near(3);
        x.plan(0, 0, 2, 0);
        x.run(1);
        Check.due("warmth is COOL, and 3 are taken", x.told(0, 4), 3);
        RoomHours y = near(9);
        y.plan(0, 0, 1, 1);
        y.run(1);
        Check.due("1 lacks for SET 1", y.told(0, 3), 1);
        RoomHours z = near(9);
        z.plan(0, 0, 1, 0);
        z.run(1);
        Check.due("none lacks for SET 0", z.told(0, 3), 0);
    }

    private static void warmthsAtTheirBounds() {
        int[] bounds = {-5000, 5000};
        for (int warmth : bounds) {
            RoomHours x = Houses.withRoom(10000, warmth - (warmth > 0 ? 1 : -1));
            x.most(0, 0, 1000000);
            x.most(0, 1, 1000000);
            x.plan(0, 0, warmth > 0 ? 1 : 2, warmth);
            x.run(1);
            Check.due("heat by " + warmth, x.told(0, 1), warmth * 10000L);
            Check.due("warmth", x.told(0, 0), warmth);
        }
        RoomHours y = Houses.withRoom(10, -5000);
        y.most(0, 0, 1000000);
        y.plan(0, 0, 1, -5000);
        y.run(1);
        Check.due("none lacks at SET -5000", y.told(0, 3), 0);
        RoomHours z = Houses.withRoom(10, 5000);
        z.most(0, 1, 1000000);
        z.plan(0, 0, 2, 5000);
        z.run(1);
        Check.due("none is too much at COOL 5000", z.told(0, 4), 0);
    }

    private static void mostAtItsBounds() {
        int[] mosts = {0, 1, 1000000};
        for (int most : mosts) {
            RoomHours x = Houses.withRoom(10000, 0);
            x.most(0, 0, most);
            x.most(0, 1, most);
            x.plan(0, 0, 1, 5000);
            x.plan(0, 1, 2, -5000);
            x.run(4);
            Check.due("given by MOST " + most, x.told(0, 3), 4L * most);
            Check.due("the greatest", x.told(0, 5), most);
            x.run(4);
            Check.due("taken by MOST " + most, x.told(0, 4), 4L * most);
            Check.due("the greatest given is as it was", x.told(0, 5), most);
        }
    }

    /** 1000 there, 50 go out, 30 by sun and 100 by persons come: 20 of 1100 lack, 280 of 800 are too much. */
    private static void afterAllThatComesByItself() {
        for (int what = 1; what <= 2; what++) {
            RoomHours x = Houses.withRoom(10, 100);
            x.wall(0, RoomHours.OUTSIDE, 50);
            x.window(0, 0, 3, 5000);
            x.sun(0, 0, 100);
            x.plan(0, 0, 0, 1);
            x.most(0, what - 1, 500);
            x.plan(0, 0, what, what == 1 ? 110 : 80);
            x.run(1);
            Check.due("given or taken", x.told(0, 2 + what), what == 1 ? 20 : 280);
            Check.due("heat", x.told(0, 1), what == 1 ? 1100 : 800);
        }
    }

    private static void heaterFirstThenCooler() {
        int[][] due = {{3, 3, 30, 0, 30}, {3, 2, 30, 10, 20}, {2, 3, 20, 0, 20}, {3, -3, 30, 50, -20}};
        for (int[] d : due) {
            RoomHours x = Houses.withRoom(10, 0);
            x.most(0, 0, 50);
            x.most(0, 1, 50);
            x.plan(0, 0, 1, d[0]);
            x.plan(0, 0, 2, d[1]);
            x.run(1);
            String how = "SET " + d[0] + ", COOL " + d[1] + ": ";
            Check.due(how + "given", x.told(0, 3), d[2]);
            Check.due(how + "taken", x.told(0, 4), d[3]);
            Check.due(how + "heat", x.told(0, 1), d[4]);
        }
    }

    private static void eachRoomByItself() {
        RoomHours x = new RoomHours();
        for (int room = 0; room < 8; room++) {
            x.room(10, 0);
            x.most(room, 0, 100);
            x.plan(room, 0, 1, room);
        }
        x.run(1);
        for (int room = 0; room < 8; room++) {
            Check.due("given to room " + room, x.told(room, 3), room * 10);
        }
        Check.due("in all", x.balance(2), 280);
    }
}
