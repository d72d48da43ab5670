/** early: the least number of hours of heating ahead of an hour's next beginning. */
public final class Promise14EarlyTest {
    public static void main(String[] args) {
        arguments();
        leastNumberOfHours();
        nextBeginning();
        hoursBeforeNowAreOver();
        anotherPlanGivesWay();
        aGreaterPlanGivesWayToo();
        theBeginningItself();
        onlyTheWantedRoomIsHeated();
        allElseAsTold();
        lessMayDoWhereMoreDoesNot();
        nothingIsChanged();
        Check.end();
    }

    /** A room of 10 with warmth 0, that a step heats by 10 at most, an hour by 40. */
    private static RoomHours heated() {
        RoomHours x = new RoomHours();
        x.room(10, 0);
        x.most(0, 0, 100);
        return x;
    }

    private static void arguments() {
        RoomHours x = heated();
        Check.argument("no such room", () -> x.early(1, 0, 0));
        Check.argument("room -1", () -> x.early(-1, 0, 0));
        Check.argument("hour 24", () -> x.early(0, 24, 0));
        Check.argument("hour -1", () -> x.early(0, -1, 0));
        Check.argument("wanted 5001", () -> x.early(0, 0, 5001));
        Check.argument("wanted -5001", () -> x.early(0, 0, -5001));
        Check.argument("wanted NONE", () -> x.early(0, 0, RoomHours.NONE));
        Check.due("wanted 5000", x.early(0, 0, 5000), RoomHours.NONE);
        Check.due("wanted -5000", x.early(0, 0, -5000), 0);
    }

    private static void leastNumberOfHours() {
        RoomHours x = heated();
        Check.due("there is enough", x.early(0, 12, 0), 0);
        Check.due("1 wants an hour", x.early(0, 12, 1), 1);
        Check.due("40 wants an hour", x.early(0, 12, 40), 1);
        Check.due("41 wants two", x.early(0, 12, 41), 2);
        Check.due("480 wants twelve", x.early(0, 12, 480), 12);
        Check.due("481 comes too late", x.early(0, 12, 481), RoomHours.NONE);
        x.most(0, 0, 99);
        Check.due("39.6 is 39", x.early(0, 12, 39), 1);
        Check.due("and not 40", x.early(0, 12, 40), 2);
    }

    private static void nextBeginning() {
        RoomHours x = heated();
        Check.due("a day to hour 0", x.early(0, 0, 960), 24);
        Check.due("no more than a day", x.early(0, 0, 961), RoomHours.NONE);
        x.run(8);
        Check.due("hour 2 begins now: the next one", x.early(0, 2, 960), 24);
        Check.due("hour 3", x.early(0, 3, 40), 1);
        Check.due("hour 1 of the next day", x.early(0, 1, 920), 23);
        x.run(92);
        Check.due("hour 1 begins now", x.early(0, 1, 960), 24);
    }

    private static void hoursBeforeNowAreOver() {
        RoomHours x = heated();
        x.run(3);
        Check.due("one step is left", x.early(0, 1, 10), 1);
        Check.due("and gives no more", x.early(0, 1, 11), RoomHours.NONE);
        Check.due("five steps to hour 2", x.early(0, 2, 50), 2);
        Check.due("and no more", x.early(0, 2, 51), RoomHours.NONE);
        Check.due("93 steps to hour 0", x.early(0, 0, 930), 24);
        Check.due("and no more", x.early(0, 0, 931), RoomHours.NONE);
    }

    private static void anotherPlanGivesWay() {
        RoomHours x = heated();
        x.plan(0, 0, 1, 20);
        x.plan(0, 1, 1, 20);
        Check.due("what is planned does", x.early(0, 2, 20), 0);
        Check.due("and no more", x.early(0, 2, 21), 1);
        Check.due("20 are there already", x.early(0, 2, 60), 1);
        Check.due("the plan holds before", x.early(0, 2, 61), 2);
        Check.due("wanted less than planned", x.early(0, 2, 10), 0);
    }

    /**
     * Half of the warmth goes out in a step; in hour 1 the sun brings 1000, or 250 above 70. SET 80
     * ends with 695 of it, shaded; SET 70 comes to the last step with 700, not shaded.
     */
    private static void aGreaterPlanGivesWayToo() {
        RoomHours x = new RoomHours();
        x.room(10, 50);
        x.wall(0, RoomHours.OUTSIDE, 500);
        x.window(0, 0, 100, 70);
        x.sun(0, 1, 100);
        x.most(0, 0, 80);
        x.plan(0, 1, 1, 80);
        Check.due("planned is more, and does not do", x.early(0, 2, 70), 1);
        Check.due("for less it does", x.early(0, 2, 69), 0);
    }

    private static void theBeginningItself() {
        RoomHours x = heated();
        x.plan(0, 2, 0, 1);
        Check.due("persons of that hour come too late", x.early(0, 2, 1), 1);
        Check.due("those of the hour before don't", x.early(0, 3, 40), 0);
        x.run(11);
        Check.due("one step is left of it", x.early(0, 3, 40), 0);
        x.run(1);
        Check.due("it begins now, and 40 are there tomorrow too", x.early(0, 3, 40), 0);
        Check.due("80 with the persons of tomorrow", x.early(0, 3, 80), 0);
        Check.due("and no more", x.early(0, 3, 81), 1);
    }

    private static void onlyTheWantedRoomIsHeated() {
        RoomHours x = heated();
        x.room(10, 0);
        x.most(1, 0, 1000000);
        x.wall(0, 1, 100);
        x.most(0, 0, 0);
        Check.due("the other room has no SET", x.early(0, 6, 5), RoomHours.NONE);
        x.plan(1, 5, 1, 100);
        // It is at 100 after the first step of hour 5; 100, 90 and 81 come from there in the others.
        Check.due("its own plan heats it", x.early(0, 6, 27), 0);
        Check.due("no more comes from there", x.early(0, 6, 28), RoomHours.NONE);
    }

    private static void allElseAsTold() {
        RoomHours x = heated();
        x.room(10, 0);
        x.plan(0, 3, 2, 30);
        Check.due("no cooler yet", x.early(0, 4, 40), 1);
        x.most(0, 1, 1000);
        Check.due("it is cooled to 30", x.early(0, 4, 40), RoomHours.NONE);
        Check.due("before that it is not", x.early(0, 3, 40), 1);
        x.plan(0, 1, 0, 1);
        Check.due("persons heat in hour 1", x.early(0, 2, 80), 1);
        Check.due("and alone", x.early(0, 2, 40), 0);
        Check.due("the other room is not heated", x.early(1, 2, 1), RoomHours.NONE);
        x.most(1, 0, 1000000);
        Check.due("now it is", x.early(1, 2, 5000), 1);
        Check.due("but of its own wish", x.early(0, 2, 81), 2);
    }

    /**
     * In hour 3 the sun brings 400, or 100 where the room is above 5 already: 700 in all to a cold
     * room. Two hours of heating shade the window from the first step on.
     */
    private static void lessMayDoWhereMoreDoesNot() {
        RoomHours x = new RoomHours();
        x.room(10, 0);
        x.most(0, 0, 15);
        x.window(0, 0, 100, 5);
        x.sun(0, 3, 40);
        Check.due("sun alone", x.early(0, 4, 70), 0);
        Check.due("700 and four times 15", x.early(0, 4, 76), 1);
        Check.due("400 and no more than 180", x.early(0, 4, 77), RoomHours.NONE);
        x.plan(0, 2, 1, 6);
        Check.due("planned heat shades", x.early(0, 4, 70), RoomHours.NONE);
        Check.due("it brings 60, the sun 400", x.early(0, 4, 46), 0);
        Check.due("and the heater 60 more", x.early(0, 4, 52), 1);
    }

    private static void nothingIsChanged() {
        RoomHours x = heated();
        x.plan(0, 5, 0, 1);
        x.plan(0, 3, 1, 77);
        Check.due("40 in hour 3, 40 by persons", x.early(0, 6, 130), 2);
        Check.due("again", x.early(0, 6, 130), 2);
        Check.due("heat", x.told(0, 1), 0);
        Check.due("uneasy", x.told(0, 2), 0);
        Check.due("given", x.balance(2), 0);
        Check.due("greatest given", x.told(0, 5), 0);
        Check.due("persons", x.balance(5), 0);
        Check.due("the plan", x.plan(0, 3, 1, 77), 77);
        Check.due("no other plan", x.plan(0, 5, 1, RoomHours.NONE), RoomHours.NONE);
        Check.due("steps", x.run(4), 4);
        Check.due("not heated in hour 0", x.told(0, 1), 0);
    }
}
