/** Promise 3: the value of a point or output. */
public final class Promise03PointTest {
    public static void main(String[] args) {
        Check check = new Check();
        OutStation x = new OutStation();
        x.change(0, 7, 1);
        x.change(1, 7, -70000);
        x.change(1, 0, 12);
        new Master(x).request(192, 5, 12, 1, 23, 1, 3, 3);
        check.due("point(0, 7)", x.point(0, 7), 1);
        check.due("point(0, 0)", x.point(0, 0), 0);
        check.due("point(1, 7)", x.point(1, 7), -70000);
        check.due("point(1, 0)", x.point(1, 0), 12);
        check.due("point(2, 3)", x.point(2, 3), 1);
        check.due("point(2, 0)", x.point(2, 0), 0);
        for (int kind : new int[] {-1, 3, Integer.MIN_VALUE, Integer.MAX_VALUE}) {
            check.badArgument("kind " + kind, () -> x.point(kind, 0));
        }
        for (int p : new int[] {-1, 8, Integer.MIN_VALUE, Integer.MAX_VALUE}) {
            check.badArgument("binary point " + p, () -> x.point(0, p));
            check.badArgument("analog point " + p, () -> x.point(1, p));
            check.badArgument("output " + p, () -> x.point(2, p));
        }
        check.badArgument("output 4", () -> x.point(2, 4));
        check.end();
    }
}
