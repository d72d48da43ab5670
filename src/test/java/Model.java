import java.util.ArrayList;
import java.util.HashMap;
import java.util.List;
import java.util.Map;

/** The document told a second time, as plainly as can be: what each call has to answer, as text. */
final class Model {
    static final String[] CALLS = {
        "room", "wall", "leads", "window", "outside", "sun", "plan", "most", "ease", "run", "told", "balance",
        "early", "strong",
    };
    static final int[] ARGUMENTS = {2, 3, 2, 4, 2, 3, 4, 3, 2, 1, 2, 1, 3, 2};

    private static final String ARGUMENT = "throws.IllegalArgumentException";
    private static final String STATE = "throws.IllegalStateException";
    private static final long NONE = -1000000;

    private final List<Long> stores = new ArrayList<>();
    private final List<Long> heats = new ArrayList<>();
    private final List<int[]> walls = new ArrayList<>();
    private final List<int[]> windows = new ArrayList<>();
    /** All that has a value from the beginning: by name, as "sun 3 23" or "given 7". */
    private final Map<String, Long> values = new HashMap<>();
    private int steps = 0;

    String answer(String call, int[] a) {
        switch (call) {
            case "room": return room(a);
            case "wall": return wall(a);
            case "leads": return leads(a);
            case "window": return window(a);
            case "outside": return isHour(a[0]) && isWarmth(a[1]) ? put("outside " + a[0], a[1]) : ARGUMENT;
            case "sun": return sun(a);
            case "plan": return plan(a);
            case "most": return most(a);
            case "ease": return ease(a);
            case "run": return run(a);
            case "told": return told(a);
            case "balance": return balance(a);
            case "early": return early(a);
            default: return strong(a);
        }
    }

    private String room(int[] a) {
        if (a[0] < 1 || a[0] > 10000 || !isWarmth(a[1])) {
            return ARGUMENT;
        }
        if (stores.size() == 8) {
            return STATE;
        }
        stores.add((long) a[0]);
        heats.add((long) a[0] * a[1]);
        count("begun", (long) a[0] * a[1]);
        return "" + (stores.size() - 1);
    }

    private String wall(int[] a) {
        boolean other = a[1] == -1 || isRoom(a[1]);
        if (!isRoom(a[0]) || !other || a[0] == a[1] || a[2] < 0 || a[2] > 1000) {
            return ARGUMENT;
        }
        if (walls.size() == 20) {
            return STATE;
        }
        walls.add(a.clone());
        if (tooManyLeads()) {
            walls.remove(walls.size() - 1);
            return STATE;
        }
        return "" + (walls.size() - 1);
    }

    private String leads(int[] a) {
        if (a[0] < 0 || a[0] >= walls.size() || a[1] < 0 || a[1] > 1000) {
            return ARGUMENT;
        }
        int was = walls.get(a[0])[2];
        walls.get(a[0])[2] = a[1];
        if (tooManyLeads()) {
            walls.get(a[0])[2] = was;
            return STATE;
        }
        return "" + was;
    }

    private boolean tooManyLeads() {
        for (int r = 0; r < stores.size(); r++) {
            long sum = 0;
            for (int[] w : walls) {
                sum += w[0] == r || w[1] == r ? w[2] : 0;
            }
            if (sum > 100 * stores.get(r)) {
                return true;
            }
        }
        return false;
    }

    private String window(int[] a) {
        if (!isRoom(a[0]) || a[1] < 0 || a[1] > 3 || a[2] < 0 || a[2] > 100 || !isWarmth(a[3])) {
            return ARGUMENT;
        }
        if (windows.size() == 12) {
            return STATE;
        }
        windows.add(a.clone());
        return "" + (windows.size() - 1);
    }

    private String sun(int[] a) {
        boolean legal = a[0] >= 0 && a[0] <= 3 && isHour(a[1]) && a[2] >= 0 && a[2] <= 1000;
        return legal ? put("sun " + a[0] + " " + a[1], a[2]) : ARGUMENT;
    }

    private String plan(int[] a) {
        boolean persons = a[2] == 0 && a[3] >= 0 && a[3] <= 100;
        boolean warmth = (a[2] == 1 || a[2] == 2) && (isWarmth(a[3]) || a[3] == NONE);
        boolean legal = isRoom(a[0]) && isHour(a[1]) && (persons || warmth);
        return legal ? put("plan " + a[0] + " " + a[1] + " " + a[2], a[3]) : ARGUMENT;
    }

    private String most(int[] a) {
        boolean legal = isRoom(a[0]) && (a[1] == 0 || a[1] == 1) && a[2] >= 0 && a[2] <= 1000000;
        return legal ? put("most " + a[0] + " " + a[1], a[2]) : ARGUMENT;
    }

    private String ease(int[] a) {
        if (!isWarmth(a[0]) || !isWarmth(a[1]) || a[0] > a[1]) {
            return ARGUMENT;
        }
        put("low", a[0]);
        put("high", a[1]);
        return "0";
    }

    private String run(int[] a) {
        if (a[0] < 1 || a[0] > 400) {
            return ARGUMENT;
        }
        if (steps + a[0] > 100000) {
            return STATE;
        }
        for (int i = 0; i < a[0]; i++) {
            step(-1, 0, 0);
        }
        return "" + steps;
    }

    private String told(int[] a) {
        if (!isRoom(a[0]) || a[1] < 0 || a[1] > 5) {
            return ARGUMENT;
        }
        String[] names = {"", "", "uneasy ", "given ", "taken ", "greatest "};
        return "" + (a[1] == 0 ? warmth(a[0]) : a[1] == 1 ? heats.get(a[0]) : get(names[a[1]] + a[0]));
    }

    private String balance(int[] a) {
        if (a[0] < 0 || a[0] > 6) {
            return ARGUMENT;
        }
        String[] names = {"", "begun", "given", "taken", "sunny", "manned", "gone"};
        return "" + (a[0] == 0 ? heats.stream().mapToLong(h -> h).sum() : get(names[a[0]]));
    }

    private String early(int[] a) {
        if (!isRoom(a[0]) || !isHour(a[1]) || !isWarmth(a[2])) {
            return ARGUMENT;
        }
        int end = steps + 1;
        while (end % 4 != 0 || end / 4 % 24 != a[1]) {
            end++;
        }
        for (int h = 0; h <= 24; h++) {
            Model trial = copy();
            while (trial.steps < end) {
                trial.step(a[0], a[2], end - 4 * h);
            }
            if (trial.warmth(a[0]) >= a[2]) {
                return "" + h;
            }
        }
        return "" + NONE;
    }

    private String strong(int[] a) {
        if (!isRoom(a[0]) || a[1] < 1 || a[1] > 192) {
            return ARGUMENT;
        }
        for (int m = 0; m <= 100000; m += 1000) {
            Model trial = copy();
            trial.put("most " + a[0] + " 0", m);
            boolean good = true;
            for (int i = 1; i <= a[1] && good; i++) {
                int hour = trial.hour();
                trial.step(-1, 0, 0);
                boolean counts = (steps + i) % 4 == 0 && get("plan " + a[0] + " " + hour + " 0") > 0;
                good = !counts || trial.warmth(a[0]) >= get("low");
            }
            if (good) {
                return "" + m;
            }
        }
        return "" + NONE;
    }

    /** One step; the SET warmth of the room wishes is wanted, from the step since on. */
    private void step(int wishes, long wanted, int since) {
        int hour = hour();
        List<Long> before = new ArrayList<>();
        for (int r = 0; r < stores.size(); r++) {
            before.add(warmth(r));
        }
        for (int[] w : walls) {
            long there = w[1] == -1 ? get("outside " + hour) : before.get(w[1]);
            long product = (before.get(w[0]) - there) * w[2];
            long goes = product < 0 ? -(-product / 100) : product / 100;
            heat(w[0], -goes);
            if (w[1] == -1) {
                count("gone", goes);
            } else {
                heat(w[1], goes);
            }
        }
        for (int[] w : windows) {
            long brings = w[2] * get("sun " + w[1] + " " + hour) / 10;
            brings = before.get(w[0]) > w[3] ? brings / 4 : brings;
            heat(w[0], brings);
            count("sunny", brings);
        }
        for (int r = 0; r < stores.size(); r++) {
            long brings = 100 * get("plan " + r + " " + hour + " 0");
            heat(r, brings);
            count("manned", brings);
        }
        for (int r = 0; r < stores.size(); r++) {
            long set = r == wishes && steps >= since ? wanted : get("plan " + r + " " + hour + " 1");
            give(r, set);
        }
        for (int r = 0; r < stores.size(); r++) {
            take(r, get("plan " + r + " " + hour + " 2"));
        }
        steps++;
        for (int r = 0; r < stores.size() && steps % 4 == 0; r++) {
            boolean uneasy = warmth(r) < get("low") || warmth(r) > get("high");
            count("uneasy " + r, uneasy && get("plan " + r + " " + hour + " 0") > 0 ? 1 : 0);
        }
    }

    private void give(int r, long set) {
        long lacking = stores.get(r) * set - heats.get(r);
        if (set == NONE || lacking <= 0) {
            return;
        }
        long gives = Math.min(lacking, get("most " + r + " 0"));
        heat(r, gives);
        count("given", gives);
        count("given " + r, gives);
        put("greatest " + r, Math.max(gives, get("greatest " + r)));
    }

    private void take(int r, long cool) {
        long tooMuch = heats.get(r) - stores.get(r) * cool;
        if (cool == NONE || tooMuch <= 0) {
            return;
        }
        long takes = Math.min(tooMuch, get("most " + r + " 1"));
        heat(r, -takes);
        count("taken", takes);
        count("taken " + r, takes);
    }

    private int hour() {
        return steps / 4 % 24;
    }

    private long warmth(int r) {
        long heat = heats.get(r);
        long store = stores.get(r);
        long down = heat / store;
        return down * store > heat ? down - 1 : down;
    }

    private void heat(int r, long more) {
        heats.set(r, heats.get(r) + more);
    }

    private boolean isRoom(int r) {
        return r >= 0 && r < stores.size();
    }

    private static boolean isHour(int h) {
        return h >= 0 && h <= 23;
    }

    private static boolean isWarmth(int w) {
        return w >= -5000 && w <= 5000;
    }

    private long get(String name) {
        boolean warmthPlanned = name.startsWith("plan ") && !name.endsWith(" 0");
        return values.getOrDefault(name, warmthPlanned ? NONE : 0L);
    }

    private String put(String name, long v) {
        long was = get(name);
        values.put(name, v);
        return "" + was;
    }

    private void count(String name, long more) {
        values.put(name, get(name) + more);
    }

    private Model copy() {
        Model m = new Model();
        m.stores.addAll(stores);
        m.heats.addAll(heats);
        m.walls.addAll(walls);
        m.windows.addAll(windows);
        m.values.putAll(values);
        m.steps = steps;
        return m;
    }
}
