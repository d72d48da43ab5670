/** The calls of the document's face by their names, so that tests may hold them in tables. */
final class Calls {
    private Calls() {
    }

    static String outcome(RoomHours x, String call, int... a) {
        return Check.outcome(() -> answer(x, call, a));
    }

    static long answer(RoomHours x, String call, int... a) {
        switch (call) {
            case "room": return x.room(a[0], a[1]);
            case "wall": return x.wall(a[0], a[1], a[2]);
            case "leads": return x.leads(a[0], a[1]);
            case "window": return x.window(a[0], a[1], a[2], a[3]);
            case "outside": return x.outside(a[0], a[1]);
            case "sun": return x.sun(a[0], a[1], a[2]);
            case "plan": return x.plan(a[0], a[1], a[2], a[3]);
            case "most": return x.most(a[0], a[1], a[2]);
            case "ease":
                x.ease(a[0], a[1]);
                return 0;
            case "run": return x.run(a[0]);
            case "told": return x.told(a[0], a[1]);
            case "balance": return x.balance(a[0]);
            case "early": return x.early(a[0], a[1], a[2]);
            default: return x.strong(a[0], a[1]);
        }
    }
}
