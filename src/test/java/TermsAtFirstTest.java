/** "NONE at first: it is not heated", "it is not cooled", "All else is 0 at first", and what that does. */
public final class TermsAtFirstTest {
    public static void main(String[] args) {
        notHeatedAtFirst();
        notCooledAtFirst();
        mostIsZeroAtFirst();
        outsideIsZeroAtFirst();
        sunIsZeroAtFirst();
        nobodyIsThereAtFirst();
        lowAndHighAreZeroAtFirst();
        noneAgain();
        aLaterRoomIsAsAtFirst();
        aNewWallBringsNoHeat();
        Check.end();
    }

    private static void notHeatedAtFirst() {
        RoomHours x = Houses.withRoom(10, -5000);
        x.most(0, 0, 1000000);
        x.run(96);
        Check.due("heat of the coldest room", x.told(0, 1), -50000);
        Check.due("given", x.told(0, 3), 0);
    }

    private static void notCooledAtFirst() {
        RoomHours x = Houses.withRoom(10, 5000);
        x.most(0, 1, 1000000);
        x.run(96);
        Check.due("heat of the warmest room", x.told(0, 1), 50000);
        Check.due("taken", x.told(0, 4), 0);
    }

    private static void mostIsZeroAtFirst() {
        RoomHours x = Houses.withRoom(10, 0);
        x.plan(0, 0, 1, 5000);
        x.plan(0, 1, 2, -5000);
        x.run(8);
        Check.due("heat", x.told(0, 1), 0);
        Check.due("given", x.told(0, 3), 0);
        Check.due("taken", x.told(0, 4), 0);
        Check.due("the greatest given", x.told(0, 5), 0);
    }

    private static void outsideIsZeroAtFirst() {
        RoomHours x = new RoomHours();
        x.room(10000, 1);
        x.room(10000, 0);
        x.room(10000, -1);
        for (int room = 0; room < 3; room++) {
            x.wall(room, RoomHours.OUTSIDE, 100);
        }
        x.run(1);
        Check.due("1 goes out", x.told(0, 1), 9999);
        Check.due("none goes", x.told(1, 1), 0);
        Check.due("1 comes in", x.told(2, 1), -9999);
    }

    private static void sunIsZeroAtFirst() {
        RoomHours x = Houses.withRoom(10, 0);
        for (int side = 0; side < 4; side++) {
            x.window(0, side, 100, 5000);
        }
        x.run(96);
        Check.due("heat", x.told(0, 1), 0);
        Check.due("from sun", x.balance(4), 0);
    }

    private static void nobodyIsThereAtFirst() {
        RoomHours x = Houses.withRoom(10, 5);
        x.ease(0, 0);
        x.run(96);
        Check.due("heat", x.told(0, 1), 50);
        Check.due("from persons", x.balance(5), 0);
        Check.due("uneasy", x.told(0, 2), 0);
    }

    private static void lowAndHighAreZeroAtFirst() {
        for (int warmth = -1; warmth <= 1; warmth++) {
            RoomHours x = Houses.withRoom(10000, warmth);
            x.plan(0, 0, 0, 1);
            Check.due("strong at " + warmth, x.strong(0, 4), warmth < 0 ? RoomHours.NONE : 0);
            x.run(4);
            Check.due("uneasy at " + warmth, x.told(0, 2), warmth == 0 ? 0 : 1);
        }
    }

    private static void noneAgain() {
        RoomHours x = Houses.withRoom(10, 0);
        x.most(0, 0, 30);
        x.most(0, 1, 70);
        x.plan(0, 0, 1, 100);
        x.run(1);
        Check.due("heated", x.told(0, 1), 30);
        Check.due("SET was", x.plan(0, 0, 1, RoomHours.NONE), 100);
        x.run(1);
        Check.due("not heated", x.told(0, 1), 30);
        x.plan(0, 0, 2, -100);
        x.run(1);
        Check.due("cooled", x.told(0, 1), -40);
        Check.due("COOL was", x.plan(0, 0, 2, RoomHours.NONE), -100);
        x.run(1);
        Check.due("not cooled", x.told(0, 1), -40);
    }

    private static void aLaterRoomIsAsAtFirst() {
        RoomHours x = Houses.withRoom(10, 0);
        x.most(0, 0, 30);
        x.most(0, 1, 70);
        for (int what = 0; what < 3; what++) {
            x.plan(0, 23, what, 50);
        }
        x.run(7);
        int room = x.room(10, 9);
        long[] due = {9, 90, 0, 0, 0, 0};
        for (int what = 0; what < 6; what++) {
            Check.due("told of the later room, " + what, x.told(room, what), due[what]);
        }
        Check.due("its persons", x.plan(room, 0, 0, 0), 0);
        Check.due("its SET", x.plan(room, 0, 1, RoomHours.NONE), RoomHours.NONE);
        Check.due("its COOL", x.plan(room, 0, 2, RoomHours.NONE), RoomHours.NONE);
        Check.due("its MOST for heating", x.most(room, 0, 0), 0);
        Check.due("its MOST for cooling", x.most(room, 1, 0), 0);
    }

    private static void aNewWallBringsNoHeat() {
        RoomHours x = new RoomHours();
        x.room(10, 50);
        x.room(10, -50);
        x.wall(0, 1, 1000);
        x.window(0, 0, 100, 0);
        Check.due("before a step", x.told(0, 1), 500);
        Check.due("in all", x.balance(0), 0);
    }
}
