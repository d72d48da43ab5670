/** strong: the least MOST for heating with which a room with persons is never below LOW. */
public final class Promise15StrongTest {
    public static void main(String[] args) {
        arguments();
        leastMost();
        onlyHoursThatEndInTheTrial();
        onlyHoursWithPersons();
        notHeated();
        atLowItself();
        theFirstAndTheLastStep();
        onlyThisRoomsHeater();
        strongerMayDoWorse();
        nothingIsChanged();
        Check.end();
    }

    /** A room of 100 with warmth 0, a person in hour 1, set to 400 in hours 0 and 1. */
    private static RoomHours peopled() {
        RoomHours x = new RoomHours();
        x.room(100, 0);
        x.plan(0, 1, 0, 1);
        x.plan(0, 0, 1, 400);
        x.plan(0, 1, 1, 400);
        return x;
    }

    private static void arguments() {
        RoomHours x = peopled();
        Check.argument("no such room", () -> x.strong(1, 1));
        Check.argument("room -1", () -> x.strong(-1, 1));
        Check.argument("0 steps", () -> x.strong(0, 0));
        Check.argument("-1 steps", () -> x.strong(0, -1));
        Check.argument("193 steps", () -> x.strong(0, 193));
        Check.due("1 step", x.strong(0, 1), 0);
        Check.due("192 steps", x.strong(0, 192), 0);
    }

    private static void leastMost() {
        RoomHours x = peopled();
        x.ease(4, 5000);
        Check.due("persons alone do it", x.strong(0, 8), 0);
        x.ease(5, 5000);
        Check.due("1000 at least", x.strong(0, 8), 1000);
        x.ease(84, 5000);
        Check.due("8 steps of 10, and persons", x.strong(0, 8), 1000);
        x.ease(85, 5000);
        Check.due("1000 more", x.strong(0, 8), 2000);
        x.ease(400, 5000);
        Check.due("39600 in 8 steps", x.strong(0, 8), 5000);
        x.ease(404, 5000);
        Check.due("40000 in hour 0, then persons alone", x.strong(0, 8), 10000);
        x.ease(405, 5000);
        Check.due("above what is set and persons", x.strong(0, 8), RoomHours.NONE);
        x.most(0, 0, 1000000);
        Check.due("its own MOST does not count", x.strong(0, 8), RoomHours.NONE);
        x.ease(-5000, 0);
        Check.due("HIGH does not count", x.strong(0, 8), 0);
        theStrongest();
    }

    private static void theStrongest() {
        RoomHours x = new RoomHours();
        x.room(1000, 0);
        x.plan(0, 0, 0, 1);
        x.plan(0, 0, 1, 5000);
        x.ease(400, 400);
        Check.due("100000 in each of 4 steps", x.strong(0, 4), 100000);
        x.ease(397, 397);
        Check.due("persons bring 400 of 397000", x.strong(0, 4), 100000);
        x.ease(396, 396);
        Check.due("99000 and persons", x.strong(0, 4), 99000);
        x.ease(401, 401);
        Check.due("none is stronger", x.strong(0, 4), RoomHours.NONE);
    }

    private static void onlyHoursThatEndInTheTrial() {
        RoomHours x = peopled();
        x.ease(50, 5000);
        Check.due("hour 1 does not end", x.strong(0, 7), 0);
        Check.due("hour 1 ends", x.strong(0, 8), 1000);
        x.run(7);
        Check.due("it begins before the trial", x.strong(0, 1), 5000);
        x.run(1);
        Check.due("it is over", x.strong(0, 95), 0);
        Check.due("a day later", x.strong(0, 96), 1000);
        Check.due("in two days", x.strong(0, 192), 1000);
    }

    /** Four persons bring 1600 in the hour to STORE 100; 4 * 1000 more with the weakest heater. */
    private static void atLowItself() {
        int[][] due = {{15, 0}, {16, 0}, {17, 1000}, {55, 1000}, {56, 1000}, {57, 2000}};
        for (int[] d : due) {
            RoomHours x = new RoomHours();
            x.room(100, 0);
            x.plan(0, 0, 0, 4);
            x.plan(0, 0, 1, 5000);
            x.ease(d[0], 5000);
            Check.due("LOW " + d[0], x.strong(0, 4), d[1]);
        }
    }

    /**
     * A room that gets colder, by some 20400 in hour 0 and 8900 in the other hours: at LOW at the end
     * of its first day, and some 28000 below it at that of the second, for which 8 steps are heated.
     */
    private static void theFirstAndTheLastStep() {
        RoomHours x = new RoomHours();
        x.room(10000, 100);
        x.wall(0, RoomHours.OUTSIDE, 100);
        x.outside(0, -5000);
        x.plan(0, 23, 0, 1);
        x.plan(0, 23, 1, 100);
        x.ease(97, 5000);
        Check.due("95 steps", x.strong(0, 95), 0);
        Check.due("96 steps", x.strong(0, 96), 0);
        Check.due("191 steps", x.strong(0, 191), 0);
        Check.due("192 steps", x.strong(0, 192), 4000);
        x.ease(5000, 5000);
        Check.due("1 step, no end of an hour with persons", x.strong(0, 1), 0);
        x.run(95);
        Check.due("1 step, the end of one", x.strong(0, 1), RoomHours.NONE);
        x.run(1);
        Check.due("1 step of the next day", x.strong(0, 1), 0);
    }

    private static void onlyThisRoomsHeater() {
        RoomHours x = new RoomHours();
        x.room(100, 0);
        x.room(100, 0);
        x.wall(0, 1, 1000);
        x.plan(0, 1, 0, 1);
        x.plan(1, 0, 1, 500);
        x.ease(5, 5000);
        Check.due("the other has a SET, and no MOST", x.strong(0, 8), RoomHours.NONE);
        x.most(1, 0, 10000);
        Check.due("it heats by its own", x.strong(0, 8), 0);
    }

    private static void onlyHoursWithPersons() {
        RoomHours x = peopled();
        x.room(100, -100);
        x.ease(0, 0);
        Check.due("the other room has none", x.strong(1, 192), 0);
        x.plan(1, 23, 0, 1);
        Check.due("not yet", x.strong(1, 95), 0);
        Check.due("now it has, and no heater helps", x.strong(1, 96), RoomHours.NONE);
        x.plan(1, 20, 1, 0);
        Check.due("set in hour 20", x.strong(1, 96), 3000);
    }

    private static void notHeated() {
        RoomHours x = peopled();
        x.ease(50, 5000);
        x.plan(0, 0, 1, RoomHours.NONE);
        x.plan(0, 1, 1, RoomHours.NONE);
        Check.due("nothing is set", x.strong(0, 8), RoomHours.NONE);
        x.plan(0, 1, 1, 46);
        Check.due("too little is set", x.strong(0, 8), RoomHours.NONE);
        x.plan(0, 1, 1, 50);
        Check.due("enough is set", x.strong(0, 8), 2000);
        x.plan(0, 1, 2, 40);
        x.most(0, 1, 1000000);
        Check.due("it is cooled", x.strong(0, 8), RoomHours.NONE);
    }

    /**
     * In hour 1 the sun brings 10000, or 2500 where the room is above 130 already, and persons 100.
     * Heated in hour 0 by 4 * MOST, it ends with 25400, 21900, 25900, 29900, 26400, 30400, ..
     */
    private static void strongerMayDoWorse() {
        RoomHours x = new RoomHours();
        x.room(100, 0);
        x.window(0, 0, 100, 130);
        x.sun(0, 1, 1000);
        x.plan(0, 0, 1, 400);
        x.plan(0, 1, 0, 1);
        int[][] due = {{254, 0}, {255, 2000}, {259, 2000}, {260, 3000}, {299, 3000}, {300, 5000}};
        for (int[] d : due) {
            x.ease(d[0], 5000);
            Check.due("LOW " + d[0], x.strong(0, 8), d[1]);
        }
    }

    private static void nothingIsChanged() {
        RoomHours x = peopled();
        x.most(0, 0, 7);
        x.ease(85, 5000);
        Check.due("strong", x.strong(0, 8), 2000);
        Check.due("again", x.strong(0, 8), 2000);
        Check.due("heat", x.told(0, 1), 0);
        Check.due("uneasy", x.told(0, 2), 0);
        Check.due("given", x.told(0, 3), 0);
        Check.due("greatest given", x.told(0, 5), 0);
        Check.due("persons", x.balance(5), 0);
        Check.due("MOST", x.most(0, 0, 7), 7);
        Check.due("steps", x.run(4), 4);
        Check.due("heated by its own MOST", x.told(0, 1), 28);
        Check.due("early is not heated by another", x.early(0, 3, 5), RoomHours.NONE);
        Check.due("strong is not set by another", x.strong(0, 4), 3000);
    }
}
