/** Promise 10: the bytes of the latest answer to a question. */
public final class Promise10ToldTest {
    public static void main(String[] args) {
        Check.run(Promise10ToldTest.class);
    }

    private static void dueTold(Check check, OutStation x, int... due) {
        for (int k = 0; k < due.length; k++) {
            check.due("told(" + k + ")", x.told(k), due[k]);
        }
        for (int k : new int[] {Integer.MIN_VALUE, -2, -1, due.length, due.length + 1, 10, 11, 255, Integer.MAX_VALUE}) {
            if (k < 0 || k >= due.length) {
                check.badIndex("told(" + k + ")", () -> x.told(k));
            }
        }
    }

    @Holds("Byte k of the latest answer to a question. IndexOutOfBoundsException: there is none.")
    static void beforeAnyQuestion(Check check) {
        dueTold(check, new OutStation());
    }

    @Holds("Byte k of the latest answer to a question. IndexOutOfBoundsException: there is none.")
    static void answersOfAllLengths(Check check) {
        OutStation x = new OutStation();
        x.change(1, 0, 0x01020304);
        x.change(1, 1, 0x05060708);
        x.ask(Master.packed(4, 0, 0, 0, 4), 5);
        dueTold(check, x, 4, 8, 1, 2, 3, 4, 5, 6, 7, 8);
        x.ask(Master.packed(4, 0, 0, 0, 3), 5);
        dueTold(check, x, 4, 6, 1, 2, 3, 4, 5, 6);
        x.ask(Master.packed(4, 0, 0, 0, 1), 5);
        dueTold(check, x, 4, 2, 1, 2);
        x.ask(Master.packed(1, 0, 0, 0, 8), 5);
        dueTold(check, x, 1, 1, 0);
        x.ask(9, 1);
        dueTold(check, x, 137, 1);
    }

    @Holds("Byte k of the latest answer to a question.")
    static void theLatestAnswerStays(Check check) {
        Master master = new Master();
        OutStation x = master.station;
        x.change(1, 0, 0x01020304);
        x.ask(Master.packed(4, 0, 0, 0, 2), 5);
        x.change(1, 0, 7);
        dueTold(check, x, 4, 4, 1, 2, 3, 4);
        check.badArgument("ask(1, 9)", () -> x.ask(1, 9));
        check.badArgument("ask(1, 0)", () -> x.ask(1, 0));
        dueTold(check, x, 4, 4, 1, 2, 3, 4);
        master.read(60, 1, 6);
        x.pass(100);
        dueTold(check, x, 4, 4, 1, 2, 3, 4);
    }
}
