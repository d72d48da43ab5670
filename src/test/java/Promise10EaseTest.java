/** ease: LOW and HIGH, and the hours that are UNEASY by them. */
public final class Promise10EaseTest {
    public static void main(String[] args) {
        arguments();
        lowAndHighBesideEachOther();
        edges();
        onlyWithPersonsAtTheFourthStep();
        Check.end();
    }

    private static long ease(RoomHours x, int low, int high) {
        x.ease(low, high);
        return 0;
    }

    private static void arguments() {
        RoomHours x = new RoomHours();
        x.room(10000, 7);
        x.plan(0, 0, 0, 1);
        x.ease(7, 7);
        Check.argument("LOW above HIGH", () -> ease(x, 5, 4));
        Check.argument("LOW -5001", () -> ease(x, -5001, 0));
        Check.argument("HIGH 5001", () -> ease(x, 0, 5001));
        Check.argument("LOW 5001", () -> ease(x, 5001, 5001));
        Check.argument("HIGH -5001", () -> ease(x, -5001, -5001));
        Check.argument("NONE", () -> ease(x, RoomHours.NONE, 0));
        x.run(4);
        Check.due("LOW and HIGH are as they were", x.told(0, 2), 0);
        Check.due("the widest", Check.outcome(() -> ease(x, -5000, 5000)), "0");
        Check.due("both least", Check.outcome(() -> ease(x, -5000, -5000)), "0");
        Check.due("both greatest", Check.outcome(() -> ease(x, 5000, 5000)), "0");
    }

    private static void lowAndHighBesideEachOther() {
        RoomHours x = new RoomHours();
        for (int warmth : new int[] {-4999, -1, 0, 1, 5000}) {
            Check.argument("LOW 1 above HIGH", () -> ease(x, warmth, warmth - 1));
            Check.due("LOW as HIGH", Check.outcome(() -> ease(x, warmth, warmth)), "0");
            Check.due("LOW 1 below HIGH", Check.outcome(() -> ease(x, warmth - 1, warmth)), "0");
        }
        Check.argument("LOW far above HIGH", () -> ease(x, 5000, -5000));
    }

    private static void edges() {
        RoomHours x = new RoomHours();
        int[] warmths = {-8, -7, 0, 6, 7};
        int[] uneasy = {1, 0, 0, 0, 1};
        for (int i = 0; i < warmths.length; i++) {
            x.room(10000, warmths[i]);
            x.plan(i, 0, 0, 1);
        }
        x.ease(-7, 6);
        x.run(4);
        for (int i = 0; i < warmths.length; i++) {
            Check.due("warmth " + warmths[i], x.told(i, 2), uneasy[i]);
        }
    }

    private static void onlyWithPersonsAtTheFourthStep() {
        RoomHours x = new RoomHours();
        x.room(100, 50);
        x.room(100, 50);
        x.plan(0, 1, 0, 1);
        x.ease(0, 52);
        x.run(7);
        Check.due("above HIGH, but the hour is not over", x.told(0, 0), 53);
        Check.due("not yet", x.told(0, 2), 0);
        x.run(1);
        Check.due("its end", x.told(0, 2), 1);
        x.run(4);
        Check.due("no persons in hour 2", x.told(0, 2), 1);
        x.ease(54, 54);
        x.run(88);
        Check.due("warmth now", x.told(0, 0), 54);
        x.run(8);
        Check.due("above again a day later", x.told(0, 2), 2);
        Check.due("never with persons", x.told(1, 2), 0);
    }
}
