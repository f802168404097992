/** Promise 1: all is 0, restart is on, nothing heard. */
public final class Promise01NewObjectTest {
    public static void main(String[] args) {
        Check check = new Check();
        OutStation x = new OutStation();
        for (int kind = 0; kind < 3; kind++) {
            for (int p = 0; p < (kind == 2 ? 4 : 8); p++) {
                check.due("point(" + kind + ", " + p + ")", x.point(kind, p), 0);
            }
        }
        check.due("events(0)", x.events(0), 0);
        check.due("events(1)", x.events(1), 0);
        check.due("sent(-1)", x.sent(-1), 0);
        check.badIndex("sent(0)", () -> x.sent(0));
        check.badIndex("told(0)", () -> x.told(0));
        check.due("one byte heard", x.hear(5, 1), 1);
        check.due("restart alone is on", new Master(new OutStation()).request(192, 1), 192, 129, 128, 0);
        check.due("nothing is selected", new Master(new OutStation()).request(192, 4, 12, 1, 23, 1, 0, 3),
            192, 129, 128, 0, 12, 1, 23, 1, 0, 3, 2);
        twoObjectsAreApart(check);
        check.end();
    }

    private static void twoObjectsAreApart(Check check) {
        OutStation one = new OutStation();
        OutStation other = new OutStation();
        one.change(1, 4, 9);
        one.hear(5, 1);
        new Master(one).request(192, 2, 80, 1, 0, 7, 7, 0);
        check.due("the other's point", other.point(1, 4), 0);
        check.due("the other's events", other.events(1), 0);
        check.due("the other's restart", new Master(other).request(192, 1), 192, 129, 128, 0);
    }
}
