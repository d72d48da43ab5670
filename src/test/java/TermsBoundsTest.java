import java.util.ArrayList;
import java.util.List;

/**
 * "A number is out of its bounds, there is no such room": each number of each call is taken at both of
 * its bounds and refused one beyond them and far beyond them, and then nothing has changed.
 */
public final class TermsBoundsTest {
    private static final int ANY = 5;

    /** One number of a call: where it stands, its bounds, and a call with all numbers within theirs. */
    private record Bound(String call, int at, int least, int greatest, int... within) {
        int[] with(int v) {
            int[] a = within.clone();
            a[at] = v;
            return a;
        }

        int[] beyond() {
            return new int[] {least - 1, greatest + 1, Integer.MIN_VALUE, Integer.MAX_VALUE};
        }

        String named(int v) {
            return call + java.util.Arrays.toString(with(v));
        }
    }

    public static void main(String[] args) {
        for (Bound b : bounds(Houses.ROOMS, Houses.WALLS)) {
            takenAtItsBounds(b);
            refusedBeyondThem(b);
        }
        refusedWhereAllIsFull();
        nothingToNameInAnEmptyHouse();
        noneIsOutOfAllOtherBounds();
        Check.end();
    }

    /** All numbers of all calls, in a house with so many rooms and walls. */
    private static List<Bound> bounds(int rooms, int walls) {
        List<Bound> all = new ArrayList<>();
        all.add(new Bound("room", 0, 1, 10000, ANY, ANY));
        all.add(warmth("room", 1, ANY, ANY));
        all.add(new Bound("wall", 0, 0, rooms - 1, ANY, RoomHours.OUTSIDE, ANY));
        all.add(new Bound("wall", 1, RoomHours.OUTSIDE, rooms - 1, 1, ANY, ANY));
        all.add(new Bound("wall", 2, 0, 1000, 1, RoomHours.OUTSIDE, ANY));
        all.add(new Bound("leads", 0, 0, walls - 1, ANY, ANY));
        all.add(new Bound("leads", 1, 0, 1000, 1, ANY));
        all.add(new Bound("window", 0, 0, rooms - 1, ANY, 1, ANY, ANY));
        all.add(new Bound("window", 1, 0, 3, 1, ANY, ANY, ANY));
        all.add(new Bound("window", 2, 0, 100, 1, 1, ANY, ANY));
        all.add(warmth("window", 3, 1, 1, ANY, ANY));
        all.add(new Bound("outside", 0, 0, 23, ANY, ANY));
        all.add(warmth("outside", 1, ANY, ANY));
        all.add(new Bound("sun", 0, 0, 3, ANY, ANY, ANY));
        all.add(new Bound("sun", 1, 0, 23, 1, ANY, ANY));
        all.add(new Bound("sun", 2, 0, 1000, 1, ANY, ANY));
        for (int what = 0; what < 3; what++) {
            all.add(new Bound("plan", 0, 0, rooms - 1, ANY, ANY, what, ANY));
            all.add(new Bound("plan", 1, 0, 23, 1, ANY, what, ANY));
        }
        all.add(new Bound("plan", 2, 0, 2, 1, ANY, ANY, ANY));
        all.add(new Bound("plan", 3, 0, 100, 1, ANY, 0, ANY));
        all.add(warmth("plan", 3, 1, ANY, 1, ANY));
        all.add(warmth("plan", 3, 1, ANY, 2, ANY));
        for (int what = 0; what < 2; what++) {
            all.add(new Bound("most", 0, 0, rooms - 1, ANY, what, ANY));
            all.add(new Bound("most", 2, 0, 1000000, 1, what, ANY));
        }
        all.add(new Bound("most", 1, 0, 1, 1, ANY, ANY));
        all.add(warmth("ease", 0, ANY, 5000));
        all.add(warmth("ease", 1, -5000, ANY));
        all.add(new Bound("run", 0, 1, 400, ANY));
        all.add(new Bound("told", 0, 0, rooms - 1, ANY, 0));
        all.add(new Bound("told", 1, 0, 5, 1, ANY));
        all.add(new Bound("balance", 0, 0, 6, ANY));
        all.add(new Bound("early", 0, 0, rooms - 1, ANY, ANY, ANY));
        all.add(new Bound("early", 1, 0, 23, 1, ANY, ANY));
        all.add(warmth("early", 2, 1, ANY, ANY));
        all.add(new Bound("strong", 0, 0, rooms - 1, ANY, ANY));
        all.add(new Bound("strong", 1, 1, 192, 1, ANY));
        return all;
    }

    private static Bound warmth(String call, int at, int... within) {
        return new Bound(call, at, -5000, 5000, within);
    }

    private static void takenAtItsBounds(Bound b) {
        for (int v : new int[] {b.least(), b.greatest()}) {
            String got = Calls.outcome(Houses.livedIn(), b.call(), b.with(v));
            Check.due(b.named(v) + " throws", got.startsWith("throws.") ? 1 : 0, 0);
        }
    }

    private static void refusedBeyondThem(Bound b) {
        String want = Look.whole(Houses.livedIn(), Houses.ROOMS, Houses.WALLS);
        for (int v : b.beyond()) {
            RoomHours x = Houses.livedIn();
            Check.argument(b.named(v), () -> Calls.answer(x, b.call(), b.with(v)));
            Look.same("after " + b.named(v), Look.whole(x, Houses.ROOMS, Houses.WALLS), want);
        }
    }

    /** "Of several exceptions the one named first is thrown": no number is too late to be looked at. */
    private static void refusedWhereAllIsFull() {
        String want = Look.happened(Houses.full(), 8);
        String[] calls = {"room", "wall", "leads", "window", "run"};
        for (String call : calls) {
            RoomHours x = Houses.full();
            for (Bound b : bounds(8, 20)) {
                for (int v : b.call().equals(call) ? b.beyond() : new int[0]) {
                    Check.argument(b.named(v) + " where all is full", () -> Calls.answer(x, call, b.with(v)));
                }
            }
            Look.same("after " + call + " where all is full", Look.happened(x, 8), want);
        }
    }

    private static void nothingToNameInAnEmptyHouse() {
        RoomHours x = new RoomHours();
        String[] calls = {"wall", "leads", "window", "plan", "most", "told", "early", "strong"};
        for (String call : calls) {
            for (Bound b : bounds(1, 1)) {
                if (b.call().equals(call) && b.at() == 0) {
                    Check.argument(b.named(0) + " with no room", () -> Calls.answer(x, call, b.with(0)));
                }
            }
        }
        Look.same("the empty house", Look.whole(x, 1, 1), Look.whole(new RoomHours(), 1, 1));
    }

    private static void noneIsOutOfAllOtherBounds() {
        for (Bound b : bounds(Houses.ROOMS, Houses.WALLS)) {
            boolean planned = b.call().equals("plan") && b.at() == 3 && b.within()[2] > 0;
            int[] a = b.with(RoomHours.NONE);
            String got = Calls.outcome(Houses.livedIn(), b.call(), a);
            String want = planned ? "" + RoomHours.NONE : "throws.IllegalArgumentException";
            Check.due(b.named(RoomHours.NONE), got, want);
        }
    }
}
