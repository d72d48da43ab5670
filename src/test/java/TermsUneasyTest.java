/**
 * "At the end of an hour (its fourth step) a room with persons in that hour is UNEASY, if its WARMTH
 * is below LOW or above HIGH then."
 */
public final class TermsUneasyTest {
    public static void main(String[] args) {
        atLowAndHigh();
        byTheWarmthRoundedDown();
        onlyAtTheFourthStep();
        onlyWithPersons();
        personsOfThatHour();
        theWarmthOfTheEnd();
        lowAndHighOfTheEnd();
        aRoomThatComesWithinTheHour();
        countedOnceAnHour();
        Check.end();
    }

    /** A room so great that persons don't warm it in a day. */
    private static RoomHours lasting(int warmth) {
        RoomHours x = Houses.withRoom(10000, warmth);
        x.plan(0, 0, 0, 1);
        return x;
    }

    private static void atLowAndHigh() {
        int[][] due = {
            {3, 4, 6, 1}, {4, 4, 6, 0}, {5, 4, 6, 0}, {6, 4, 6, 0}, {7, 4, 6, 1},
            {-5, -5, -5, 0}, {-6, -5, -5, 1}, {-4, -5, -5, 1},
            {-5000, -5000, 5000, 0}, {4999, -5000, 5000, 0}, {-5000, -4999, 5000, 1}, {5000, -5000, 4999, 1},
        };
        for (int[] d : due) {
            RoomHours x = lasting(d[0]);
            x.ease(d[1], d[2]);
            x.run(4);
            Check.due("warmth " + d[0] + ", LOW " + d[1] + ", HIGH " + d[2], x.told(0, 2), d[3]);
        }
    }

    /** One person brings 400 in four steps: STORE 400 is one warmer then, STORE 401 lacks 1 for that. */
    private static void byTheWarmthRoundedDown() {
        int[][] due = {
            {401, 9, 10, 1}, {401, 9, 9, 0}, {400, 9, 10, 0}, {400, 9, 9, 1},
            {401, -1, 0, 1}, {401, -1, -1, 0}, {400, -1, 0, 0}, {400, -1, -1, 1},
        };
        for (int[] d : due) {
            RoomHours x = Houses.withRoom(d[0], d[1]);
            x.plan(0, 0, 0, 1);
            x.ease(d[2], d[2]);
            x.run(4);
            Check.due("heat", x.told(0, 1), d[0] * d[1] + 400);
            Check.due("STORE " + d[0] + " from " + d[1] + ", LOW and HIGH " + d[2], x.told(0, 2), d[3]);
        }
    }

    private static void onlyAtTheFourthStep() {
        RoomHours x = lasting(5);
        x.ease(6, 6);
        for (int step = 1; step <= 3; step++) {
            x.run(1);
            Check.due("after step " + step, x.told(0, 2), 0);
        }
        x.run(1);
        Check.due("after step 4", x.told(0, 2), 1);
        x.run(1);
        Check.due("after step 5", x.told(0, 2), 1);
    }

    private static void onlyWithPersons() {
        RoomHours x = new RoomHours();
        for (int room = 0; room < 3; room++) {
            x.room(10000, 5);
            x.plan(room, 0, 0, room);
        }
        x.ease(6, 6);
        x.run(4);
        Check.due("no persons", x.told(0, 2), 0);
        Check.due("one", x.told(1, 2), 1);
        Check.due("two", x.told(2, 2), 1);
    }

    private static void personsOfThatHour() {
        RoomHours x = Houses.withRoom(10000, 5);
        x.plan(0, 1, 0, 1);
        x.ease(6, 6);
        x.run(4);
        Check.due("persons of the next hour don't count", x.told(0, 2), 0);
        x.run(4);
        Check.due("hour 1", x.told(0, 2), 1);
        x.run(4);
        Check.due("persons of the hour before don't count", x.told(0, 2), 1);
    }

    private static void theWarmthOfTheEnd() {
        RoomHours x = Houses.withRoom(10, 0);
        x.plan(0, 0, 0, 1);
        x.ease(50, 50);
        x.run(3);
        x.most(0, 0, 1000);
        x.plan(0, 0, 1, 50);
        x.run(1);
        Check.due("heated in the last step", x.told(0, 2), 0);
        RoomHours y = Houses.withRoom(10, 0);
        y.plan(0, 0, 0, 1);
        y.ease(-5, -5);
        y.run(3);
        y.most(0, 1, 1000);
        y.plan(0, 0, 2, -5);
        y.run(1);
        Check.due("cooled in the last step", y.told(0, 2), 0);
        RoomHours z = Houses.withRoom(10, 0);
        z.plan(0, 0, 0, 1);
        z.ease(0, 39);
        z.run(4);
        Check.due("at ease but for the last step", z.told(0, 2), 1);
    }

    private static void lowAndHighOfTheEnd() {
        RoomHours x = lasting(5);
        x.ease(6, 6);
        x.run(3);
        x.ease(5, 5);
        x.run(1);
        Check.due("told before the last step", x.told(0, 2), 0);
        x.ease(6, 6);
        Check.due("hours that are over stay so", x.told(0, 2), 0);
    }

    private static void aRoomThatComesWithinTheHour() {
        RoomHours x = new RoomHours();
        x.ease(6, 6);
        x.run(3);
        x.room(10000, 5);
        x.plan(0, 0, 0, 1);
        x.run(1);
        Check.due("a room of one step", x.told(0, 2), 1);
    }

    private static void countedOnceAnHour() {
        RoomHours x = lasting(5);
        for (int hour = 0; hour < 24; hour++) {
            x.plan(0, hour, 0, 1 + hour);
        }
        x.ease(0, 0);
        x.run(96);
        Check.due("a day", x.told(0, 2), 24);
        x.run(96);
        Check.due("two days", x.told(0, 2), 48);
    }
}
