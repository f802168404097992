/** Promise 3: the value of a point or output. */
public final class Promise03PointTest {
    public static void main(String[] args) {
        Check.run(Promise03PointTest.class);
    }

    @Holds("The value of a point (kinds 0, 1) or output (kind 2).")
    static void theThreeKinds(Check check) {
        Master master = new Master();
        master.station.change(0, 7, 1);
        master.station.change(1, 7, -70000);
        master.station.change(1, 0, 12);
        master.command(0, Master.DIRECT, 3, Master.ON);
        check.due("point(0, 7)", master.station.point(0, 7), 1);
        check.due("point(0, 0)", master.station.point(0, 0), 0);
        check.due("point(1, 7)", master.station.point(1, 7), -70000);
        check.due("point(1, 0)", master.station.point(1, 0), 12);
        check.due("point(2, 3)", master.station.point(2, 3), 1);
        check.due("point(2, 0)", master.station.point(2, 0), 0);
    }

    @Holds("There are 4 OUTPUTS, 0 or 1.")
    static void fourOutputs(Check check) {
        Master master = new Master();
        for (int x = 0; x < 4; x++) {
            master.command(x, Master.DIRECT, x, Master.ON);
            check.due("output " + x + " on", master.station.point(2, x), 1);
        }
        check.badArgument("output 4", () -> master.station.point(2, 4));
        for (int x = 0; x < 4; x++) {
            master.command(x, Master.DIRECT, x, Master.OFF);
            check.due("output " + x + " off", master.station.point(2, x), 0);
        }
        check.due("they are no points", master.station.point(0, 0) + master.station.point(1, 0), 0);
    }

    @Holds("IllegalArgumentException: there is none.")
    static void noPoint(Check check) {
        OutStation x = new OutStation();
        for (int p : new int[] {Integer.MIN_VALUE, -1, 8, 9, Integer.MAX_VALUE}) {
            check.badArgument("point(0, " + p + ")", () -> x.point(0, p));
            check.badArgument("point(1, " + p + ")", () -> x.point(1, p));
            check.badArgument("point(2, " + p + ")", () -> x.point(2, p));
        }
        for (int p : new int[] {4, 5, 7}) {
            check.badArgument("point(2, " + p + ")", () -> x.point(2, p));
            check.due("point(0, " + p + ")", x.point(0, p), 0);
            check.due("point(1, " + p + ")", x.point(1, p), 0);
        }
    }

    @Holds("IllegalArgumentException: there is none.")
    static void noKind(Check check) {
        OutStation x = new OutStation();
        for (int kind : new int[] {Integer.MIN_VALUE, -1, 3, 4, Integer.MAX_VALUE}) {
            for (int p : new int[] {-1, 0, 7, 8}) {
                check.badArgument("point(" + kind + ", " + p + ")", () -> x.point(kind, p));
            }
        }
    }
}
