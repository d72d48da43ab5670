/** leads: what the wall had; its bounds; LEADS at a room at most 100 times its STORE. */
public final class Promise04LeadsTest {
    public static void main(String[] args) {
        changesAndAnswers();
        arguments();
        states();
        Check.end();
    }

    private static void changesAndAnswers() {
        RoomHours x = new RoomHours();
        x.room(10, 100);
        x.wall(0, -1, 0);
        x.run(1);
        Check.due("shut", x.told(0, 1), 1000);
        Check.due("opened", x.leads(0, 500), 0);
        x.run(1);
        Check.due("half goes", x.told(0, 1), 500);
        Check.due("again", x.leads(0, 1000), 500);
        x.run(1);
        Check.due("all goes", x.told(0, 1), 0);
        Check.due("shut again", x.leads(0, 0), 1000);
    }

    private static void arguments() {
        RoomHours x = new RoomHours();
        x.room(100, 0);
        x.wall(0, -1, 5);
        Check.argument("wall 1", () -> x.leads(1, 5));
        Check.argument("wall -1", () -> x.leads(-1, 5));
        Check.argument("wall 20", () -> x.leads(20, 5));
        Check.argument("leads -1", () -> x.leads(0, -1));
        Check.argument("leads 1001", () -> x.leads(0, 1001));
        Check.argument("leads least int", () -> x.leads(0, Integer.MIN_VALUE));
        Check.due("as it was", x.leads(0, 1000), 5);
        Check.due("1000 is fine", x.leads(0, 0), 1000);
    }

    private static void states() {
        RoomHours x = new RoomHours();
        x.room(2, 0);
        x.room(1, 0);
        x.wall(0, 1, 30);
        x.wall(1, -1, 70);
        x.wall(0, -1, 150);
        Check.state("too much at the other room", () -> x.leads(0, 31));
        Check.state("too much at the first room", () -> x.leads(2, 171));
        Check.argument("a wrong number comes first", () -> x.leads(2, 1001));
        Check.due("not changed", x.leads(0, 30), 30);
        Check.due("just enough", x.leads(2, 170), 150);
        Check.state("1 is too much", () -> x.leads(2, 171));
        Check.due("less here", x.leads(0, 20), 30);
        Check.due("more there", x.leads(1, 80), 70);
        Check.state("and no more", () -> x.leads(1, 81));
        Check.due("the first room has 10 too", x.leads(2, 180), 170);
        Check.state("a new wall finds none left", () -> x.wall(1, -1, 1));
    }
}
