/** Promise 4: how many events of a kind there are. */
public final class Promise04EventsTest {
    public static void main(String[] args) {
        Check check = new Check();
        OutStation x = new OutStation();
        for (int i = 1; i <= 9; i++) {
            x.change(1, i % 8, i);
            check.due("analog events behind " + i, x.events(1), Math.min(i, 6));
            check.due("binary ones", x.events(0), 0);
        }
        x.change(0, 2, 1);
        check.due("a binary one", x.events(0), 1);
        new Master(x).request(192, 1, 60, 2, 6, 60, 3, 7, 2);
        check.due("reading leaves them", x.events(0) + x.events(1), 7);
        new Master(x).request(192, 0);
        check.due("confirming takes the binary one", x.events(0), 0);
        check.due("and two analog ones", x.events(1), 4);
        for (int kind : new int[] {-1, 2, 3, Integer.MIN_VALUE, Integer.MAX_VALUE}) {
            check.badArgument("kind " + kind, () -> x.events(kind));
        }
        check.end();
    }
}
