/** Promise 4: how many events of a kind there are. */
public final class Promise04EventsTest {
    public static void main(String[] args) {
        Check.run(Promise04EventsTest.class);
    }

    @Holds("How many events of a kind there are.")
    static void fromNoneToSix(Check check) {
        OutStation x = new OutStation();
        check.due("none", x.events(0) + x.events(1), 0);
        for (int i = 1; i <= 9; i++) {
            x.change(1, i % 8, i);
            check.due("analog events behind " + i, x.events(1), Math.min(i, 6));
            check.due("binary ones", x.events(0), 0);
        }
        for (int i = 1; i <= 9; i++) {
            x.change(0, 2, i % 2);
            check.due("binary events behind " + i, x.events(0), Math.min(i, 6));
            check.due("analog ones", x.events(1), 6);
        }
    }

    @Holds("How many events of a kind there are.")
    static void untilTheyAreConfirmed(Check check) {
        Master master = Master.withEvents(1, 6);
        master.read(60, 2, 6, 60, 3, 7, 2);
        check.due("reading leaves the binary one", master.station.events(0), 1);
        check.due("and the analog ones", master.station.events(1), 6);
        master.confirm(0);
        check.due("confirming takes the binary one", master.station.events(0), 0);
        check.due("and two analog ones", master.station.events(1), 4);
    }

    @Holds("IllegalArgumentException: there is no such kind.")
    static void noKind(Check check) {
        OutStation x = new OutStation();
        for (int kind : new int[] {Integer.MIN_VALUE, -1, 2, 3, Integer.MAX_VALUE}) {
            check.badArgument("events(" + kind + ")", () -> x.events(kind));
        }
    }
}
