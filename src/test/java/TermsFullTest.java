/**
 * What is full: 8 rooms, 20 walls, 12 windows, LEADS at a room 100 times its STORE, 100000 steps. Each
 * is refused with illegal state then, changes nothing, and hinders no other call.
 */
public final class TermsFullTest {
    public static void main(String[] args) {
        numbersAsTheyCome();
        refusedWhereFull();
        theRestGoesOn();
        leadsUpToTheLast();
        leadsOfTwentyWalls();
        leadsOfBothRooms();
        leadsThatAreReplaced();
        refusedWallsLeaveNoLeads();
        stepsUpToTheLast();
        Check.end();
    }

    private static void numbersAsTheyCome() {
        RoomHours x = new RoomHours();
        for (int i = 0; i < 8; i++) {
            Check.due("room", x.room(10000, 0), i);
        }
        for (int i = 0; i < 20; i++) {
            Check.due("wall", x.wall(i % 8, (i + 1) % 8, 1000), i);
        }
        for (int i = 0; i < 12; i++) {
            Check.due("window", x.window(i % 8, i % 4, 100, 0), i);
        }
    }

    private static void refusedWhereFull() {
        String[][] refused = {{"room", "1 0"}, {"wall", "1 2 0"}, {"wall", "1 -1 0"}, {"window", "0 0 0 0"},
            {"leads", "0 101"}};
        String want = Look.happened(Houses.built(), 8) + next(Houses.built());
        for (String[] r : refused) {
            RoomHours x = Houses.built();
            for (int time = 0; time < 3; time++) {
                Check.state(r[0] + " " + r[1], () -> Calls.answer(x, r[0], numbers(r[1])));
            }
            Look.same("after " + r[0] + " " + r[1], Look.happened(x, 8) + next(x), want);
        }
    }

    private static int[] numbers(String text) {
        String[] words = text.split(" ");
        int[] a = new int[words.length];
        for (int i = 0; i < a.length; i++) {
            a[i] = Integer.parseInt(words[i]);
        }
        return a;
    }

    private static String next(RoomHours x) {
        x.sun(1, 0, 100);
        x.run(5);
        return Look.happened(x, 8) + "leads " + x.leads(0, 0) + " " + x.leads(19, 0);
    }

    private static void theRestGoesOn() {
        RoomHours x = Houses.full();
        Check.due("leads", x.leads(19, 4), 5);
        Check.due("leads where it is full", x.leads(0, 99), 100);
        Check.due("outside", x.outside(23, 1), 0);
        Check.due("sun", x.sun(3, 23, 1), 0);
        Check.due("plan", x.plan(7, 23, 2, 1), RoomHours.NONE);
        Check.due("most", x.most(7, 1, 1), 0);
        Check.due("told", x.told(7, 2), 0);
        Check.due("balance", x.balance(2), 0);
        Check.due("early", x.early(7, 23, -5000), 0);
        Check.due("strong", x.strong(7, 192), 0);
    }

    private static void leadsUpToTheLast() {
        for (int store : new int[] {1, 2, 9}) {
            RoomHours x = Houses.withRoom(store, 0);
            Check.state("one too many, STORE " + store, () -> x.wall(0, RoomHours.OUTSIDE, store * 100 + 1));
            Check.due("all, STORE " + store, x.wall(0, RoomHours.OUTSIDE, store * 100), 0);
            Check.state("1 more, STORE " + store, () -> x.wall(0, RoomHours.OUTSIDE, 1));
            Check.due("0 more, STORE " + store, x.wall(0, RoomHours.OUTSIDE, 0), 1);
        }
        RoomHours y = Houses.withRoom(10, 0);
        Check.argument("1001 is no number of LEADS", () -> y.wall(0, RoomHours.OUTSIDE, 1001));
        Check.due("1000 at STORE 10", y.wall(0, RoomHours.OUTSIDE, 1000), 0);
        Check.state("1 more at STORE 10", () -> y.wall(0, RoomHours.OUTSIDE, 1));
    }

    private static void leadsOfTwentyWalls() {
        for (int store = 199; store <= 200; store++) {
            RoomHours x = Houses.withRoom(store, 0);
            for (int i = 0; i < 19; i++) {
                Check.due("wall", x.wall(0, RoomHours.OUTSIDE, 1000), i);
            }
            String want = store == 199 ? "throws.IllegalStateException" : "19";
            Check.due("wall 19, STORE " + store, Calls.outcome(x, "wall", 0, RoomHours.OUTSIDE, 1000), want);
            String less = store == 199 ? "19" : "throws.IllegalStateException";
            Check.due("then with 900", Calls.outcome(x, "wall", 0, RoomHours.OUTSIDE, 900), less);
        }
    }

    private static void leadsOfBothRooms() {
        RoomHours x = new RoomHours();
        x.room(1, 0);
        x.room(100, 0);
        x.room(1, 0);
        Check.state("too much for the first", () -> x.wall(0, 1, 101));
        Check.state("too much for the other", () -> x.wall(1, 0, 101));
        Check.due("all", x.wall(1, 0, 100), 0);
        Check.state("the other is full", () -> x.wall(1, 0, 1));
        Check.state("the first is full", () -> x.wall(0, 2, 1));
        Check.due("between the others", x.wall(1, 2, 100), 1);
        Check.state("now that is full too", () -> x.wall(2, RoomHours.OUTSIDE, 1));
        Check.due("the great one is not", x.wall(1, RoomHours.OUTSIDE, 1000), 2);
    }

    private static void leadsThatAreReplaced() {
        RoomHours x = new RoomHours();
        x.room(1, 0);
        x.room(2, 0);
        x.wall(0, 1, 100);
        x.wall(1, RoomHours.OUTSIDE, 100);
        Check.due("the same again where both are full", x.leads(0, 100), 100);
        Check.state("one more for both", () -> x.leads(0, 101));
        Check.state("one more for one", () -> x.leads(1, 101));
        Check.due("less", x.leads(0, 0), 100);
        Check.due("the second has as much more", x.leads(1, 200), 100);
        Check.state("the first room bears it, the second not", () -> x.leads(0, 1));
        Check.due("less there", x.leads(1, 199), 200);
        Check.due("so 1 is left", x.leads(0, 1), 0);
        Check.state("and no more", () -> x.leads(0, 2));
    }

    private static void refusedWallsLeaveNoLeads() {
        RoomHours x = new RoomHours();
        x.room(1, 0);
        x.room(100, 0);
        for (int i = 0; i < 5; i++) {
            Check.state("refused", () -> x.wall(1, 0, 101));
        }
        for (int i = 0; i < 10; i++) {
            Check.due("the great room's wall", x.wall(1, RoomHours.OUTSIDE, 1000), i);
        }
        Check.due("nothing was kept of the refused ones", x.leads(9, 1000), 1000);
        Check.state("it is full now", () -> x.wall(1, RoomHours.OUTSIDE, 1));
        Check.due("the small room is empty", x.wall(0, RoomHours.OUTSIDE, 100), 10);
    }

    private static void stepsUpToTheLast() {
        RoomHours x = Houses.withRoom(10000, 0);
        x.plan(0, 15, 0, 1);
        for (int i = 0; i < 249; i++) {
            x.run(400);
        }
        Check.due("then", x.run(1), 99601);
        long before = x.balance(5);
        Check.state("400 would be one too many", () -> x.run(400));
        Check.due("none of them was done", x.balance(5), before);
        Check.due("399 are not", x.run(399), 100000);
        Check.state("1 more", () -> x.run(1));
        Check.state("400 more", () -> x.run(400));
        Check.argument("0 more", () -> x.run(0));
        Check.argument("401 more", () -> x.run(401));
    }
}
