/** Promise 2: a point's value in the field, its events and the overflow. */
public final class Promise02ChangeTest {
    private static final int[] EDGES = {Integer.MIN_VALUE, -1, 0, 1, Integer.MAX_VALUE};

    public static void main(String[] args) {
        Check check = new Check();
        values(check);
        refusals(check);
        onlyAnotherValueIsAnEvent(check);
        theFirstEventGoesWhenThereAreSix(check);
        check.end();
    }

    private static void values(Check check) {
        OutStation x = new OutStation();
        for (int p = 0; p < 8; p++) {
            x.change(0, p, 1);
            check.due("binary point " + p, x.point(0, p), 1);
            check.due("analog point " + p + " is left alone", x.point(1, p), 0);
            x.change(0, p, 0);
            check.due("binary point " + p + " again", x.point(0, p), 0);
        }
        for (int edge : EDGES) {
            x.change(1, 7, edge);
            check.due("analog point", x.point(1, 7), edge);
        }
    }

    private static void refusals(Check check) {
        OutStation x = new OutStation();
        check.badArgument("kind -1", () -> x.change(-1, 0, 0));
        check.badArgument("kind 2", () -> x.change(2, 0, 0));
        check.badArgument("kind 2 with a value", () -> x.change(2, 3, 1));
        check.badArgument("kind 3", () -> x.change(3, 0, 0));
        check.badArgument("binary point -1", () -> x.change(0, -1, 0));
        check.badArgument("binary point 8", () -> x.change(0, 8, 0));
        check.badArgument("analog point -1", () -> x.change(1, -1, 0));
        check.badArgument("analog point 8", () -> x.change(1, 8, 0));
        check.badArgument("far points", () -> x.change(1, Integer.MIN_VALUE, 0));
        check.badArgument("binary value 2", () -> x.change(0, 0, 2));
        check.badArgument("binary value -1", () -> x.change(0, 0, -1));
        check.due("no event came of it", x.events(0) + x.events(1), 0);
        check.due("no value came of it", x.point(0, 0), 0);
    }

    private static void onlyAnotherValueIsAnEvent(Check check) {
        OutStation x = new OutStation();
        x.change(0, 3, 0);
        x.change(1, 3, 0);
        check.due("the same value is no event", x.events(0) + x.events(1), 0);
        x.change(0, 3, 1);
        x.change(0, 3, 1);
        x.change(0, 3, 0);
        check.due("there and back are two", x.events(0), 2);
        check.due("of that kind alone", x.events(1), 0);
    }

    private static void theFirstEventGoesWhenThereAreSix(Check check) {
        OutStation x = new OutStation();
        Master master = new Master(x);
        for (int i = 0; i < 6; i++) {
            x.change(0, i, 1);
        }
        check.due("six are no overflow", master.request(192, 1), 192, 129, 130, 0);
        x.change(0, 0, 1);
        check.due("the same value is no overflow", master.request(192, 1), 192, 129, 130, 0);
        x.change(0, 6, 1);
        check.due("a seventh one is", master.request(192, 1), 192, 129, 130, 8);
        check.due("six are left", master.request(193, 1, 60, 2, 6),
            225, 129, 130, 8, 2, 1, 23, 6, 1, 129, 2, 129, 3, 129, 4, 129, 5, 129, 6, 129);
        OutStation y = new OutStation();
        for (int i = 1; i <= 7; i++) {
            y.change(1, 2, 100 * i);
        }
        check.due("analog ones likewise", y.events(1), 6);
        check.due("from the second one on", new Master(y).request(192, 1, 60, 3, 7, 1),
            224, 129, 132, 8, 32, 1, 23, 1, 2, 1, 200, 0, 0, 0);
    }
}
