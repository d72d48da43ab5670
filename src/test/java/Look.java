/** All that an object tells, as text, so that two objects may be compared. */
final class Look {
    private Look() {
    }

    /** What happened: all that is told of so many rooms, and the sums. */
    static String happened(RoomHours x, int rooms) {
        StringBuilder all = new StringBuilder();
        for (int room = 0; room < rooms; room++) {
            for (int what = 0; what < 6; what++) {
                add(all, x, "told", room, what);
            }
        }
        for (int what = 0; what < 7; what++) {
            add(all, x, "balance", what);
        }
        return all.toString();
    }

    /** What there is, read by telling it anew, and what comes next: the last look at an object. */
    static String whole(RoomHours x, int rooms, int walls) {
        StringBuilder all = new StringBuilder(happened(x, rooms));
        for (int room = 0; room < rooms; room++) {
            add(all, x, "strong", room, 12);
        }
        add(all, x, "run", 7);
        all.append(happened(x, rooms));
        addDay(all, x, rooms);
        for (int room = 0; room < rooms; room++) {
            add(all, x, "most", room, 0, 0);
            add(all, x, "most", room, 1, 0);
        }
        for (int wall = 0; wall <= walls; wall++) {
            add(all, x, "leads", wall, 0);
        }
        add(all, x, "wall", 0, RoomHours.OUTSIDE, 0);
        add(all, x, "window", 0, 0, 0, 0);
        add(all, x, "room", 1, 0);
        return all.toString();
    }

    private static void addDay(StringBuilder all, RoomHours x, int rooms) {
        for (int hour = 0; hour < 24; hour++) {
            add(all, x, "outside", hour, 0);
            for (int side = 0; side < 4; side++) {
                add(all, x, "sun", side, hour, 0);
            }
            for (int i = 0; i < 3 * rooms; i++) {
                add(all, x, "plan", i / 3, hour, i % 3, 0);
            }
        }
    }

    private static void add(StringBuilder all, RoomHours x, String call, int... a) {
        all.append(call).append(java.util.Arrays.toString(a)).append(' ');
        all.append(Calls.outcome(x, call, a)).append('\n');
    }

    /** Says the first line in which two looks differ. */
    static void same(String what, String got, String want) {
        String[] g = got.split("\n");
        String[] w = want.split("\n");
        for (int i = 0; i < Math.min(g.length, w.length); i++) {
            if (!g[i].equals(w[i])) {
                Check.say(what + ": " + g[i] + ", due is " + w[i]);
                return;
            }
        }
        Check.due(what + ": lines", g.length, w.length);
    }
}
