/** "By the hours 0 .. 23 of a day, which come again each day"; the hour is steps over, by 4, modulo 24. */
public final class TermsDayTest {
    public static void main(String[] args) {
        fourStepsAnHour();
        eachHourOfTwoDays();
        allThatIsToldComesAgain();
        fromHour23ToHour0();
        theLastStepOfAll();
        toldAnewWithinAnHour();
        Check.end();
    }

    private static void fourStepsAnHour() {
        RoomHours x = Houses.withRoom(10000, 0);
        x.plan(0, 0, 0, 1);
        x.plan(0, 1, 0, 10);
        long[] due = {100, 200, 300, 400, 1400, 2400, 3400, 4400, 4400};
        for (int step = 0; step < due.length; step++) {
            x.run(1);
            Check.due("heat after step " + step, x.told(0, 1), due[step]);
        }
    }

    private static void eachHourOfTwoDays() {
        RoomHours x = Houses.withRoom(10000, 0);
        for (int hour = 0; hour < 24; hour++) {
            x.plan(0, hour, 0, hour + 1);
        }
        for (int hour = 0; hour < 48; hour++) {
            long before = x.balance(5);
            x.run(4);
            Check.due("hour " + hour, x.balance(5) - before, (hour % 24 + 1) * 400);
        }
    }

    private static void allThatIsToldComesAgain() {
        for (int hour = 0; hour < 24; hour++) {
            RoomHours x = onlyInHour(hour);
            for (int day = 1; day <= 3; day++) {
                checkDay(x, hour, day);
            }
        }
    }

    /** Five rooms, each with one thing that brings or takes 1, or 100, in each step of one hour alone. */
    private static RoomHours onlyInHour(int hour) {
        RoomHours x = new RoomHours();
        for (int room = 0; room < 5; room++) {
            x.room(10000, 0);
            x.most(room, 0, 1);
            x.most(room, 1, 1);
        }
        x.wall(0, RoomHours.OUTSIDE, 1);
        x.outside(hour, 100);
        x.window(1, 3, 1, 5000);
        x.sun(3, hour, 10);
        x.plan(2, hour, 0, 1);
        x.plan(3, hour, 1, 5000);
        x.plan(4, hour, 2, -5000);
        x.ease(-5000, -5000);
        return x;
    }

    private static void checkDay(RoomHours x, int hour, int day) {
        int[] each = {1, 1, 100, 1, -1};
        checkHeat(x, "before hour " + hour + " of day " + day, hour, each, 4 * (day - 1));
        checkHeat(x, "after hour " + hour + " of day " + day, 1, each, 4 * day);
        checkHeat(x, "at the end of day " + day, 23 - hour, each, 4 * day);
        Check.due("uneasy, hour " + hour + " of day " + day, x.told(2, 2), day);
    }

    private static void checkHeat(RoomHours x, String when, int hours, int[] each, int times) {
        if (hours > 0) {
            x.run(4 * hours);
        }
        for (int room = 0; room < each.length; room++) {
            Check.due("room " + room + " " + when, x.told(room, 1), each[room] * times);
        }
    }

    private static void fromHour23ToHour0() {
        RoomHours x = Houses.withRoom(10000, 0);
        x.plan(0, 23, 0, 1);
        x.plan(0, 0, 0, 10);
        x.run(95);
        Check.due("within hour 23", x.balance(5), 4000 + 300);
        x.run(1);
        Check.due("its end", x.balance(5), 4000 + 400);
        x.run(1);
        Check.due("hour 0 of the next day", x.balance(5), 4000 + 400 + 1000);
    }

    /** 99999 by 4 is 24999, modulo 24 is 15: 1041 whole days, and the hours 0 .. 15 of one more. */
    private static void theLastStepOfAll() {
        int[][] due = {{0, 1042}, {15, 1042}, {16, 1041}, {23, 1041}};
        for (int[] d : due) {
            RoomHours x = Houses.withRoom(10000, 0);
            x.plan(0, d[0], 0, 1);
            Houses.toTheLast(x);
            Check.due("persons in the hours " + d[0], x.balance(5), d[1] * 400);
        }
    }

    private static void toldAnewWithinAnHour() {
        RoomHours x = Houses.withRoom(10000, 0);
        x.wall(0, RoomHours.OUTSIDE, 100);
        x.outside(0, 7);
        x.run(2);
        x.outside(0, 3);
        x.run(1);
        Check.due("the next step goes by it", x.told(0, 1), 7 + 7 + 3);
        Check.due("it is as told", x.outside(0, 0), 3);
    }
}
