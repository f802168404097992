import java.util.Arrays;

/** Promise 7: the bytes that were sent, and the frames and parts that they make. */
public final class Promise07SentTest {
    public static void main(String[] args) {
        Check check = new Check();
        aShortAnswer(check);
        aLongAnswer(check);
        lengthsOfAnswers(check);
        thePartsNumbersGoOn(check);
        onlyTheLatestAreKept(check);
        theMasterThatAsked(check);
        check.end();
    }

    private static void aShortAnswer(Check check) {
        OutStation x = new OutStation();
        Master master = new Master(x);
        master.bringPart(192, 197, 1);
        check.due("sent(-1)", x.sent(-1), 17);
        check.due("the frame", master.sentBytes(), Master.join(
            Master.withSum(5, 100, 10, 68, 3, 0, 10, 0), Master.withSum(192, 197, 129, 128, 0)));
        check.due("the latest byte", x.sent(0), Master.sumOf(192, 197, 129, 128, 0) >> 8);
        check.due("the first byte", x.sent(16), 5);
        check.badIndex("sent(17)", () -> x.sent(17));
        check.badIndex("sent(-2)", () -> x.sent(-2));
        check.badIndex("sent(least)", () -> x.sent(Integer.MIN_VALUE));
        check.badIndex("sent(most)", () -> x.sent(Integer.MAX_VALUE));
    }

    private static void aLongAnswer(Check check) {
        OutStation x = new OutStation();
        Master master = new Master(x);
        x.change(1, 7, -2);
        master.bringPart(192, 192, 1, 60, 1, 6);
        int[] zero = {1, 0, 0, 0, 0};
        int[] binary = {1, 2, 0, 0, 7, 1, 1, 1, 1, 1, 1, 1, 1};
        int[] fragment = Master.join(new int[] {192, 129, 132, 0}, binary,
            new int[] {30, 1, 0, 0, 7}, Master.times(7, zero), new int[] {1, 254, 255, 255, 255});
        int[] one = Master.join(new int[] {64}, Arrays.copyOfRange(fragment, 0, 39));
        int[] two = Master.join(new int[] {129}, Arrays.copyOfRange(fragment, 39, 62));
        check.due("sent(-1)", x.sent(-1), 94);
        check.due("two frames", master.sentBytes(),
            Master.join(Master.frame(68, 3, 10, one), Master.frame(68, 3, 10, two)));
    }

    private static void lengthsOfAnswers(Check check) {
        // Each header of one point gives six bytes, and the answer has four in front.
        int[] four = Master.times(4, 1, 2, 0, 0, 0);
        check.due("28 bytes go in one part", bytesSentFor(four), 10 + 29 + 4);
        check.due("34 in one with three blocks", bytesSentFor(Master.join(four, new int[] {1, 2, 0, 0, 0})), 10 + 35 + 6);
        check.due("39 in a full one", bytesSentFor(Master.join(four, new int[] {1, 2, 0, 0, 5})), 10 + 40 + 6);
        check.due("40 in two", bytesSentFor(Master.join(four, new int[] {1, 2, 0, 0, 6})), 10 + 40 + 6 + 10 + 2 + 2);
    }

    private static int bytesSentFor(int[] headers) {
        Master master = new Master(new OutStation());
        master.request(Master.join(new int[] {192, 1}, headers));
        return master.station.sent(-1);
    }

    private static void thePartsNumbersGoOn(Check check) {
        Master master = new Master(new OutStation());
        int number = 0;
        for (int i = 0; i < 50; i++) {
            boolean twoParts = i % 3 == 0;
            master.bringPart(192, twoParts ? new int[] {192, 1, 60, 1, 6} : new int[] {192, 1});
            int[] bytes = master.sentBytes();
            check.due("first part of answer " + i, bytes[10], (twoParts ? 64 : 192) + number);
            number = (number + 1) % 64;
            if (twoParts) {
                check.due("second part of answer " + i, bytes[66], 128 + number);
                number = (number + 1) % 64;
            }
        }
    }

    private static void onlyTheLatestAreKept(Check check) {
        OutStation x = new OutStation();
        Master master = new Master(x);
        int[] all = new int[0];
        for (int i = 0; i < 30; i++) {
            master.bringPart(192, 192 + i % 16, 1);
            all = Master.join(all, master.sentBytes());
            check.due("sent(-1)", x.sent(-1), all.length);
            if (all.length < 256) {
                int length = all.length;
                check.badIndex("sent(" + length + ")", () -> x.sent(length));
            }
        }
        for (int k = 0; k < 256; k++) {
            check.due("sent(" + k + ")", x.sent(k), all[all.length - 1 - k]);
        }
        check.badIndex("sent(256)", () -> x.sent(256));
    }

    private static void theMasterThatAsked(Check check) {
        OutStation x = new OutStation();
        for (int from : new int[] {0, 10, 255, 256, 0x1234, 65535}) {
            check.due("the answer to " + from, new Master(x, from).request(192, 1), 192, 129, 128, 0);
        }
    }
}
