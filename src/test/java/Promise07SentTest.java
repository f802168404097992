/** Promise 7: the bytes that were sent. */
public final class Promise07SentTest {
    /** How many bytes the answer to a READ without headers has, and the one with a binary point. */
    private static final int SHORT = 17;
    private static final int LONGER = 23;

    public static void main(String[] args) {
        Check.run(Promise07SentTest.class);
    }

    @Holds("How many bytes were sent on the line (k = -1), or the one that was sent k-th latest")
    static void oneAnswer(Check check) {
        Master master = new Master();
        check.due("none", master.station.sent(-1), 0);
        master.bringRequest(197, 1);
        check.due("sent(-1)", master.station.sent(-1), SHORT);
        int[] due = Master.frame(68, 3, 10, 192, 197, 129, 128, 0);
        for (int k = 0; k < SHORT; k++) {
            check.due("sent(" + k + ")", master.station.sent(k), due[SHORT - 1 - k]);
        }
        master.bring(5, 100, 6, 1);
        master.station.ask(1, 1);
        check.due("hearing and telling are not sending", master.station.sent(-1), SHORT);
    }

    @Holds("or the one that was sent k-th latest (0 .. 255). IndexOutOfBoundsException: there is none.")
    static void fewerThan256(Check check) {
        Master master = new Master();
        check.badIndex("sent(0) before any", () -> master.station.sent(0));
        check.badIndex("sent(255) before any", () -> master.station.sent(255));
        for (int i = 1; i <= 15; i++) {
            master.bringRequest(192, 1);
            int total = SHORT * i;
            check.due("sent(-1)", master.station.sent(-1), total);
            check.due("the first one", master.station.sent(total - 1), 5);
            check.badIndex("sent(" + total + ")", () -> master.station.sent(total));
            check.badIndex("sent(256)", () -> master.station.sent(256));
        }
    }

    @Holds("(0 .. 255). IndexOutOfBoundsException: there is none.")
    static void just256(Check check) {
        Master master = new Master();
        for (int i = 0; i < 14; i++) {
            master.bringRequest(i < 3 ? new int[] {192, 1, 1, 2, 0, 0, 0} : new int[] {192, 1});
        }
        check.due("sent(-1)", master.station.sent(-1), 3 * LONGER + 11 * SHORT);
        check.due("they are 256", master.station.sent(-1), 256);
        check.due("the very first one", master.station.sent(255), 5);
        check.due("the second one", master.station.sent(254), 100);
        check.badIndex("sent(256)", () -> master.station.sent(256));
        master.bringRequest(192, 1);
        check.due("one answer more", master.station.sent(-1), 256 + SHORT);
        int[] first = Master.frame(68, 3, 10, 192, 192, 129, 128, 0, 1, 2, 0, 0, 0, 1);
        check.due("the first ones are gone", master.station.sent(255), first[SHORT]);
        check.badIndex("sent(256) is none", () -> master.station.sent(256));
        check.badIndex("sent(272) is none", () -> master.station.sent(272));
    }

    @Holds("or the one that was sent k-th latest (0 .. 255).")
    static void theLatestOfMany(Check check) {
        Master master = new Master();
        int[] all = new int[0];
        for (int i = 0; i < 40; i++) {
            master.bringRequest(192 + i % 16, 1);
            all = Master.join(all, Master.frame(68, 3, 10, 192 + i, 192 + i % 16, 129, 128, 0));
        }
        check.due("sent(-1)", master.station.sent(-1), all.length);
        for (int k = 0; k < 256; k++) {
            check.due("sent(" + k + ")", master.station.sent(k), all[all.length - 1 - k]);
        }
    }

    @Holds("(k = -1), or the one that was sent k-th latest (0 .. 255). IndexOutOfBoundsException: there is none.")
    static void otherNumbers(Check check) {
        Master master = new Master();
        for (int i = 0; i < 20; i++) {
            master.bringRequest(192, 1);
        }
        for (int k : new int[] {Integer.MIN_VALUE, -256, -2, 256, 257, 339, 340, 512, Integer.MAX_VALUE}) {
            check.badIndex("sent(" + k + ")", () -> master.station.sent(k));
        }
        check.due("sent(-1) is as it was", master.station.sent(-1), 20 * SHORT);
    }

    @Holds("An object is used for at most 512 calls after it has been made;")
    static void toTheLastOf512Calls(Check check) {
        OutStation x = new OutStation();
        int[] request = Master.frame(196, 10, 3, 192, 192, 1, 60, 1, 6);
        int[] bytes = Master.times(511 * 8 / request.length + 1, request);
        int left = 0;
        for (int call = 0; call < 511; call++) {
            long eight = 0;
            for (int i = 0; i < 8; i++) {
                eight = eight << 8 | bytes[8 * call + i];
            }
            left = x.hear(eight, 8);
        }
        check.due("the row behind 511 calls", left, 511 * 8 % request.length);
        check.due("the 512th call", x.sent(-1), 511 * 8 / request.length * 94);
    }
}
