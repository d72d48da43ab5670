/** plan: PERSONS, SET and COOL warmths of a room by the hours, and what they do in a step. */
public final class Promise08PlanTest {
    public static void main(String[] args) {
        answers();
        arguments();
        whatIsPersonsOnlyOrWarmthOnly();
        personsBringHeat();
        heaterGivesWhatIsLacking();
        coolerTakesWhatIsTooMuch();
        heaterThenCooler();
        oneIsEnough();
        byTheHour();
        Check.end();
    }

    private static void answers() {
        RoomHours x = new RoomHours();
        x.room(1, 0);
        x.room(1, 0);
        for (int i = 0; i < 144; i++) {
            Check.due("first", x.plan(i / 72, i / 3 % 24, i % 3, i % 100), i % 3 == 0 ? 0 : RoomHours.NONE);
        }
        for (int i = 0; i < 144; i++) {
            Check.due("each has its own", x.plan(i / 72, i / 3 % 24, i % 3, 0), i % 100);
        }
    }

    private static void arguments() {
        RoomHours x = new RoomHours();
        x.room(1, 0);
        Check.argument("no such room", () -> x.plan(1, 0, 0, 0));
        Check.argument("room -1", () -> x.plan(-1, 0, 0, 0));
        Check.argument("hour 24", () -> x.plan(0, 24, 0, 0));
        Check.argument("hour -1", () -> x.plan(0, -1, 0, 0));
        Check.argument("what 3", () -> x.plan(0, 0, 3, 0));
        Check.argument("what -1", () -> x.plan(0, 0, -1, 0));
        Check.argument("persons 101", () -> x.plan(0, 0, 0, 101));
        Check.argument("persons -1", () -> x.plan(0, 0, 0, -1));
        Check.argument("persons NONE", () -> x.plan(0, 0, 0, RoomHours.NONE));
        for (int what = 1; what <= 2; what++) {
            int w = what;
            Check.argument("warmth 5001", () -> x.plan(0, 0, w, 5001));
            Check.argument("warmth -5001", () -> x.plan(0, 0, w, -5001));
            Check.argument("one beside NONE", () -> x.plan(0, 0, w, RoomHours.NONE + 1));
            Check.due("not changed", x.plan(0, 0, w, 5000), RoomHours.NONE);
            Check.due("5000", x.plan(0, 0, w, -5000), 5000);
            Check.due("-5000", x.plan(0, 0, w, RoomHours.NONE), -5000);
            Check.due("NONE again", x.plan(0, 0, w, 0), RoomHours.NONE);
        }
        Check.due("persons not changed", x.plan(0, 0, 0, 100), 0);
        Check.due("persons 100", x.plan(0, 0, 0, 0), 100);
    }

    private static void whatIsPersonsOnlyOrWarmthOnly() {
        RoomHours x = new RoomHours();
        x.room(1, 0);
        for (int v : new int[] {-1, 101, -5000, 5000, RoomHours.NONE}) {
            Check.argument("no number of persons: " + v, () -> x.plan(0, 9, 0, v));
            x.plan(0, 9, 1, v);
            x.plan(0, 9, 2, v);
            Check.due("SET", x.plan(0, 9, 1, 0), v);
            Check.due("COOL", x.plan(0, 9, 2, 0), v);
        }
        Check.due("persons", x.plan(0, 9, 0, 0), 0);
    }

    private static void personsBringHeat() {
        RoomHours x = new RoomHours();
        x.room(10, 0);
        x.plan(0, 0, 0, 3);
        x.run(1);
        Check.due("3 persons", x.told(0, 1), 300);
        Check.due("from persons", x.balance(5), 300);
        x.run(4);
        Check.due("an hour of 4 steps", x.balance(5), 1200);
    }

    private static void heaterGivesWhatIsLacking() {
        RoomHours x = new RoomHours();
        x.room(10, 0);
        x.plan(0, 0, 1, 100);
        x.run(1);
        Check.due("MOST is 0", x.told(0, 1), 0);
        x.most(0, 0, 700);
        x.run(1);
        Check.due("MOST", x.told(0, 1), 700);
        x.run(1);
        Check.due("what is lacking", x.told(0, 1), 1000);
        x.plan(0, 0, 0, 1);
        x.run(1);
        Check.due("nothing where there is more", x.told(0, 1), 1100);
        Check.due("given", x.told(0, 3), 1000);
    }

    private static void coolerTakesWhatIsTooMuch() {
        RoomHours x = new RoomHours();
        x.room(10, 100);
        x.plan(0, 0, 2, 0);
        x.run(1);
        Check.due("MOST is 0", x.told(0, 1), 1000);
        x.most(0, 1, 700);
        x.run(1);
        Check.due("MOST", x.told(0, 1), 300);
        x.run(1);
        Check.due("what is too much", x.told(0, 1), 0);
        x.plan(0, 0, 2, 50);
        x.run(1);
        Check.due("nothing where there is less", x.told(0, 1), 0);
        Check.due("taken", x.told(0, 4), 1000);
    }

    private static void heaterThenCooler() {
        RoomHours x = new RoomHours();
        x.room(10, 0);
        x.most(0, 0, 1000);
        x.most(0, 1, 300);
        x.plan(0, 0, 1, 60);
        x.plan(0, 0, 2, 40);
        x.run(1);
        Check.due("600 given, 200 taken", x.told(0, 1), 400);
        Check.due("given", x.told(0, 3), 600);
        Check.due("taken", x.told(0, 4), 200);
        x.plan(0, 0, 0, 5);
        x.run(1);
        Check.due("persons come before both", x.told(0, 3), 600);
        Check.due("900 there, 300 taken", x.told(0, 1), 600);
    }

    private static void oneIsEnough() {
        RoomHours x = new RoomHours();
        for (int room = 0; room < 2; room++) {
            x.room(100, 0);
            x.wall(room, RoomHours.OUTSIDE, 1);
            x.most(room, room, 1000);
            x.plan(room, 0, 1 + room, 0);
        }
        x.outside(0, -100);
        x.run(1);
        Check.due("1 is lacking and given", x.told(0, 3), 1);
        Check.due("none is too much", x.told(1, 4), 0);
        x.outside(0, 299);
        x.run(1);
        Check.due("none is lacking", x.told(0, 3), 1);
        Check.due("-1 and 3 come in: 2 are taken", x.told(1, 4), 2);
        x.outside(0, 100);
        x.run(1);
        Check.due("1 is too much and taken", x.told(1, 4), 3);
    }

    private static void byTheHour() {
        RoomHours x = new RoomHours();
        x.room(10, 0);
        x.room(10, 0);
        x.most(1, 0, 1000000);
        x.most(1, 1, 1000000);
        x.plan(1, 1, 1, 50);
        x.plan(1, 23, 2, -50);
        x.run(4);
        Check.due("hour 0", x.told(1, 1), 0);
        x.run(4);
        Check.due("hour 1", x.told(1, 1), 500);
        x.run(84);
        Check.due("hour 22", x.told(1, 1), 500);
        x.run(4);
        Check.due("hour 23", x.told(1, 1), -500);
        x.run(8);
        Check.due("hour 1 of the next day", x.told(1, 1), 500);
        Check.due("the other room", x.told(0, 1), 0);
    }
}
