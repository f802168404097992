/** Promise 6: time goes by, and what is selected gets too old. */
public final class Promise06PassTest {
    public static void main(String[] args) {
        Check check = new Check();
        operateBehind(check, 0);
        operateBehind(check, 0, 1);
        operateBehind(check, 0, 10);
        operateBehind(check, 0, 5, 5);
        operateBehind(check, 1, 11);
        operateBehind(check, 1, 5, 6);
        operateBehind(check, 1, 100);
        operateBehind(check, 1, 100, 100, 100);
        timeBeforeSelectingIsOfNoMatter(check);
        OutStation x = new OutStation();
        for (int ticks : new int[] {0, -1, 101, Integer.MIN_VALUE, Integer.MAX_VALUE}) {
            check.badArgument("pass(" + ticks + ")", () -> x.pass(ticks));
        }
        refusedTicksDoNotPass(check);
        check.end();
    }

    private static void operateBehind(Check check, int status, int... passes) {
        Master master = new Master(new OutStation());
        master.request(195, 3, 12, 1, 23, 1, 1, 3);
        for (int ticks : passes) {
            master.station.pass(ticks);
        }
        check.due("operate", master.request(196, 4, 12, 1, 23, 1, 1, 3),
            196, 129, 128, 0, 12, 1, 23, 1, 1, 3, status);
        check.due("the output", master.station.point(2, 1), status == 0 ? 1 : 0);
    }

    private static void timeBeforeSelectingIsOfNoMatter(Check check) {
        Master master = new Master(new OutStation());
        master.station.pass(100);
        master.request(192, 3, 12, 1, 23, 1, 1, 3);
        master.station.pass(9);
        master.request(193, 3, 12, 1, 23, 1, 1, 3);
        master.station.pass(9);
        check.due("selected anew", master.request(194, 4, 12, 1, 23, 1, 1, 3)[10], 0);
    }

    private static void refusedTicksDoNotPass(Check check) {
        Master master = new Master(new OutStation());
        master.request(192, 3, 12, 1, 23, 1, 1, 3);
        check.badArgument("pass(101)", () -> master.station.pass(101));
        check.due("still young", master.request(193, 4, 12, 1, 23, 1, 1, 3)[10], 0);
    }
}
