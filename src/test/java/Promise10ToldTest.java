/** Promise 10: the bytes of the latest answer to a question. */
public final class Promise10ToldTest {
    public static void main(String[] args) {
        Check check = new Check();
        OutStation x = new OutStation();
        check.badIndex("before any question", () -> x.told(0));
        x.change(1, 0, 0x01020304);
        x.change(0, 1, 1);
        x.ask(Master.packed(4, 0, 0, 0, 2), 5);
        int[] due = {4, 4, 1, 2, 3, 4};
        for (int k = 0; k < due.length; k++) {
            check.due("told(" + k + ")", x.told(k), due[k]);
        }
        for (int k : new int[] {-1, 6, 7, Integer.MIN_VALUE, Integer.MAX_VALUE}) {
            check.badIndex("told(" + k + ")", () -> x.told(k));
        }
        x.change(1, 0, 7);
        check.due("as it was when asked", x.told(5), 4);
        check.badArgument("a question that is none", () -> x.ask(1, 9));
        check.due("it leaves the answer", x.told(0), 4);
        new Master(x).request(192, 1);
        check.due("so does the line", x.told(0), 4);
        x.ask(Master.packed(1, 0, 0, 0, 8), 5);
        check.due("the next answer", x.told(2), 2);
        check.badIndex("nothing of the one before", () -> x.told(3));
        x.ask(9, 1);
        check.due("a refusal", x.told(0), 137);
        check.due("its reason", x.told(1), 1);
        check.badIndex("no more", () -> x.told(2));
        check.end();
    }
}
