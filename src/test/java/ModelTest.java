import java.util.ArrayList;
import java.util.Arrays;
import java.util.List;

/** Runs of calls, drawn by a fixed rule, on an object and on the Model: both must answer the same. */
public final class ModelTest {
    private static final int WILD_RUNS = 100;
    private static final int LIVED_IN_RUNS = 60;
    private static final int CALLS_OF_WILD = 500;
    private static final int CALLS_OF_LIVED_IN = 120;

    private final RoomHours x = new RoomHours();
    private final Model model = new Model();
    private final List<String> past = new ArrayList<>();
    private long seed;
    private boolean same = true;

    private ModelTest(long seed) {
        this.seed = seed * 7919 + 17;
    }

    public static void main(String[] args) {
        for (int run = 1; run <= WILD_RUNS; run++) {
            new ModelTest(run).wild();
        }
        for (int run = 1; run <= LIVED_IN_RUNS; run++) {
            new ModelTest(-run).livedIn();
        }
        Check.end();
    }

    /** Calls of all kinds, right and wrong ones mixed. */
    private void wild() {
        int size = 1 + draw(4);
        for (int i = 0; i < CALLS_OF_WILD && same; i++) {
            int call = i < 12 * size ? draw(9) : pick();
            compare(Model.CALLS[call], arguments(call, size));
        }
    }

    /** Two rooms in the cold that are heated and have persons, so that trials have many answers. */
    private void livedIn() {
        for (int room = 0; room < 2; room++) {
            compare("room", 50 + draw(200), 1500 + draw(600));
            compare("wall", room, -1, 5 + draw(40));
            compare("window", room, draw(4), draw(60), 1600 + draw(500));
            compare("most", room, 0, draw(9000));
            compare("most", room, 1, draw(900));
        }
        compare("wall", 0, 1, draw(100));
        int low = 1600 + draw(300);
        compare("ease", low, low + draw(300));
        for (int hour = 0; hour < 24; hour++) {
            compare("outside", hour, draw(2500) - 1500);
            compare("sun", draw(4), hour, draw(1000));
            for (int room = 0; room < 2; room++) {
                compare("plan", room, hour, 0, draw(2) * draw(6));
                compare("plan", room, hour, 1, draw(3) == 0 ? RoomHours.NONE : 1700 + draw(400));
                compare("plan", room, hour, 2, draw(2) == 0 ? RoomHours.NONE : 1900 + draw(400));
            }
        }
        for (int i = 0; i < CALLS_OF_LIVED_IN && same; i += 4) {
            compare("run", 1 + draw(draw(4) == 0 ? 100 : 9));
            compare("early", draw(2), draw(24), 1600 + draw(500));
            compare("strong", draw(2), 1 + draw(draw(2) == 0 ? 192 : 24));
            compare("told", draw(2), draw(6));
        }
    }

    private void compare(String call, int... a) {
        if (!same) {
            return;
        }
        String got = Calls.outcome(x, call, a);
        String want = model.answer(call, a);
        past.add(call + Arrays.toString(a) + " " + got);
        if (!got.equals(want)) {
            same = false;
            Check.say("due is " + want + " in the last of " + past);
        }
    }

    /** A call's number; those that the Model takes long for come seldom, looks and plans often. */
    private int pick() {
        int d = draw(100);
        if (d < 2) {
            return 13;
        }
        if (d < 6) {
            return 12;
        }
        return d < 20 ? 9 : d < 55 ? 10 + draw(2) : d < 75 ? 6 : draw(9);
    }

    private int[] arguments(int call, int size) {
        int[] a = new int[Model.ARGUMENTS[call]];
        for (int i = 0; i < a.length; i++) {
            a[i] = argument(Model.CALLS[call], i, size);
        }
        if (call == 6) {
            a[3] = planned(a[2]);
        }
        return a;
    }

    private int argument(String call, int i, int size) {
        switch (call + i) {
            case "room0": return within(1, draw(3) == 0 ? 10000 : 150);
            case "wall1": return draw(2) == 0 ? -1 : within(0, 2 * size - 1);
            case "wall2": case "leads1": return within(0, draw(4) == 0 ? 1000 : 120);
            case "leads0": return within(0, 5);
            case "window1": case "sun0": return within(0, 3);
            case "window2": return within(0, 100);
            case "outside0": case "sun1": case "plan1": case "early1": return within(0, 23);
            case "sun2": return within(0, 1000);
            case "plan2": return within(0, 2);
            case "most1": return within(0, 1);
            case "most2": return draw(5) == 0 ? within(0, 1000000) : within(0, 9000);
            case "run0": return draw(6) == 0 ? within(1, 400) : within(1, 9);
            case "told1": return within(0, 5);
            case "balance0": return within(0, 6);
            case "strong1": return within(1, draw(2) == 0 ? 192 : 24);
            case "room1": case "outside1": case "window3": case "early2": case "ease0": case "ease1":
                return warmth();
            default: return within(0, 2 * size - 1);
        }
    }

    private int planned(int what) {
        if (what == 0) {
            return draw(2) == 0 ? within(0, 4) : within(0, 100);
        }
        return draw(4) == 0 ? RoomHours.NONE : warmth();
    }

    private int warmth() {
        return draw(4) == 0 ? within(-5000, 5000) : within(1200, 2600);
    }

    /** Mostly between both, sometimes one of them, one beside them or far away. */
    private int within(int least, int greatest) {
        switch (draw(100)) {
            case 0: return least;
            case 1: return greatest;
            case 2: return least - 1;
            case 3: return greatest + 1;
            case 4: return draw(2) == 0 ? Integer.MIN_VALUE : Integer.MAX_VALUE;
            default: return least + draw(greatest - least + 1);
        }
    }

    private int draw(int below) {
        seed = seed * 6364136223846793005L + 1442695040888963407L;
        return (int) ((seed >>> 33) % below);
    }
}
