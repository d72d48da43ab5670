/** "A TRIAL does steps on a copy: nothing is changed by it. (It may go beyond the steps that run() allows.)" */
public final class TermsTrialTest {
    public static void main(String[] args) {
        nothingIsChanged();
        theNextTrialBeginsAnew();
        trialsDoNotMix();
        beyondTheLastStep();
        stillRefusedAfterATrial();
        Check.end();
    }

    private static void nothingIsChanged() {
        String want = Look.whole(Houses.livedIn(), Houses.ROOMS, Houses.WALLS);
        int[][] trials = {{0, 0, 5000}, {1, 23, -5000}, {2, 5, 9}, {0, 1, 8}};
        RoomHours x = Houses.livedIn();
        for (int[] t : trials) {
            x.early(t[0], t[1], t[2]);
            x.strong(t[0], 192);
        }
        Look.same("after trials", Look.whole(x, Houses.ROOMS, Houses.WALLS), want);
    }

    private static void theNextTrialBeginsAnew() {
        RoomHours x = Houses.withRoom(10, 0);
        x.most(0, 0, 100);
        x.plan(0, 0, 0, 1);
        x.plan(0, 0, 1, 30);
        x.ease(130, 5000);
        for (int i = 0; i < 3; i++) {
            Check.due("early, time " + i, x.early(0, 4, 150), 3);
            Check.due("strong, time " + i, x.strong(0, 4), RoomHours.NONE);
        }
        x.ease(60, 5000);
        for (int i = 0; i < 3; i++) {
            Check.due("strong again, time " + i, x.strong(0, 4), 1000);
        }
    }

    /** The wanted warmth of early() holds for no later trial, nor does the tried MOST of strong(). */
    private static void trialsDoNotMix() {
        RoomHours x = Houses.withRoom(10, 0);
        x.plan(0, 0, 0, 1);
        x.ease(100, 5000);
        x.most(0, 0, 1);
        Check.due("early", x.early(0, 1, 100), RoomHours.NONE);
        Check.due("nothing is set for strong", x.strong(0, 4), RoomHours.NONE);
        x.plan(0, 0, 1, 100);
        Check.due("strong", x.strong(0, 4), 1000);
        Check.due("MOST is 1 for early", x.early(0, 1, 100), RoomHours.NONE);
    }

    /** 100000 steps end with hour 15; a person in hours 16 and 17 brings 400 to STORE 100 in each. */
    private static void beyondTheLastStep() {
        RoomHours x = Houses.withRoom(100, 0);
        Houses.toTheLast(x);
        x.plan(0, 16, 0, 1);
        x.plan(0, 17, 0, 1);
        x.most(0, 0, 100);
        Check.due("early to hour 17", x.early(0, 17, 4), 0);
        Check.due("early to hour 17, more", x.early(0, 17, 8), 1);
        Check.due("early to hour 18", x.early(0, 18, 8), 0);
        Check.due("early to hour 16, a day", x.early(0, 16, 104), 24);
        Check.due("early to hour 16, too much", x.early(0, 16, 105), RoomHours.NONE);
        x.ease(5, 5);
        Check.due("strong, before an hour ends", x.strong(0, 3), 0);
        Check.due("strong, hour 16", x.strong(0, 4), RoomHours.NONE);
        x.plan(0, 16, 1, 5);
        Check.due("strong, hour 16, heated", x.strong(0, 4), 1000);
        Check.due("strong, two days", x.strong(0, 192), 1000);
        Check.due("heat", x.told(0, 1), 0);
    }

    private static void stillRefusedAfterATrial() {
        RoomHours x = Houses.withRoom(100, 0);
        Houses.toTheLast(x);
        x.strong(0, 192);
        x.early(0, 16, 0);
        Check.state("run after trials", () -> x.run(1));
        Check.due("heat", x.told(0, 1), 0);
    }
}
