import java.util.Arrays;

/** Promise 5: the row of bytes on the line, and the frames that it brings. */
public final class Promise05HearingTest {
    private static final int ANSWERED = 17;

    public static void main(String[] args) {
        Check.run(Promise05HearingTest.class);
    }

    /** A frame with a READ that asks for nothing: its answer has 17 bytes. */
    private static int[] request() {
        return Master.frame(196, 10, 3, 192, 192, 1);
    }

    /** A frame of another length with a request of an unknown function: its answer has 17 bytes too. */
    private static int[] request(int payload) {
        return Master.frame(196, 10, 3, Arrays.copyOf(new int[] {192, 192, 9}, payload));
    }

    private static int[] flipped(int[] bytes, int at, int bit) {
        int[] other = bytes.clone();
        other[at] ^= 1 << bit;
        return other;
    }

    private static int leftOf(int... bytes) {
        return new Master().bring(bytes);
    }

    @Holds("The line brings n bytes (1 .. 8;")
    static void oneToEightBytes(Check check) {
        int[] bytes = Master.join(request(40), request());
        for (int n = 1; n <= 8; n++) {
            Master master = new Master();
            int left = 0;
            for (int at = 0; at < bytes.length; at += n) {
                int[] some = Arrays.copyOfRange(bytes, at, Math.min(at + n, bytes.length));
                left = master.station.hear(Master.packed(some), some.length);
            }
            check.due("left, " + n + " at once", left, 0);
            check.due("sent, " + n + " at once", master.station.sent(-1), 2 * ANSWERED);
        }
    }

    @Holds("the lowest n of bytes, the highest of these first)")
    static void theLowestBytesTheHighestFirst(Check check) {
        OutStation x = new OutStation();
        check.due("two of eight", x.hear(0xFFFFFFFFFFFF0564L, 2), 2);
        check.due("the lowest one", x.hear(0x0564050505050508L, 1), 3);
        check.due("five of eight", x.hear(0x050505C40A000300L, 5), 8);
        check.due("the sum and three more", x.hear(Master.packed(25, 89, 192, 192, 1), 5), 13);
        int sum = Master.sumOf(192, 192, 1);
        check.due("the rest", x.hear(~0xFFFFL | Master.packed(sum & 255, sum >> 8), 2), 0);
        check.due("the answer is sent", x.sent(-1), ANSWERED);
        check.due("all eight, the highest first", new OutStation().hear(0x0564060000000000L, 8), 8);
        check.due("all eight of a long below 0", new OutStation().hear(0xFF05640600000000L, 8), 7);
    }

    @Holds("how many bytes are in the row then.")
    static void theRowGrowsToAWholeFrame(Check check) {
        OutStation x = new OutStation();
        int[] bytes = request(40);
        for (int i = 0; i < bytes.length; i++) {
            check.due("behind byte " + i, x.hear(bytes[i], 1), i == bytes.length - 1 ? 0 : i + 1);
        }
        check.due("a frame and what comes behind it", leftOf(Master.join(request(), new int[] {5, 100, 7, 0})), 4);
    }

    @Holds("how many bytes are in the row then. IllegalArgumentException: n is not so.")
    static void refusedNumbersOfBytes(Check check) {
        OutStation x = new OutStation();
        x.hear(5, 1);
        for (int n : new int[] {Integer.MIN_VALUE, -8, -1, 0, 9, 16, Integer.MAX_VALUE}) {
            check.badArgument("hear(5, " + n + ")", () -> x.hear(5, n));
            check.badArgument("hear(0, " + n + ")", () -> x.hear(0, n));
        }
        check.due("the row is as it was", x.hear(100, 1), 2);
    }

    @Holds("As soon as the row can't begin with a frame (its first byte is not 5,")
    static void firstBytes(Check check) {
        for (int b = 0; b < 256; b++) {
            check.due("a first byte " + b, leftOf(b), b == 5 ? 1 : 0);
        }
        check.due("eight of them", new OutStation().hear(-1L, 8), 0);
    }

    @Holds("its second not 100,")
    static void secondBytes(Check check) {
        for (int b = 0; b < 256; b++) {
            int left = b == 100 ? 2 : 0;
            check.due("a second byte " + b, leftOf(5, b), b == 5 ? 1 : left);
        }
    }

    @Holds({"its third not 6 to 45,", "n - 5 bytes (1 to 40),"})
    static void thirdBytes(Check check) {
        for (int b = 0; b < 256; b++) {
            int left = b >= 6 && b <= 45 ? 3 : 0;
            check.due("a third byte " + b, leftOf(5, 100, b), b == 5 ? 1 : left);
        }
        check.due("a frame without a payload", leftOf(Master.frame(196, 10, 3)), 0);
        Master master = new Master();
        master.bring(request(41));
        check.due("a payload of 41 is none", master.station.sent(-1), 0);
    }

    @Holds({"or a sum that is all there is wrong)", "the sum of these eight;"})
    static void wrongSumsOfHeads(Check check) {
        for (int at = 3; at < 10; at++) {
            for (int bit = 0; bit < 8; bit++) {
                Master master = new Master();
                int[] bytes = flipped(request(), at, bit);
                check.due("nine bytes, " + at + " is wrong", master.bring(Arrays.copyOf(bytes, 9)), 9);
                check.due("ten bytes, " + at + " is wrong", master.bring(bytes[9]), 0);
            }
        }
    }

    @Holds({"or a sum that is all there is wrong)", "each with its sum behind it."})
    static void wrongSumsOfBlocks(Check check) {
        int[] bytes = request(40);
        for (int at = 10; at < bytes.length; at++) {
            int end = at < 28 ? 28 : at < 46 ? 46 : 56;
            for (int bit = 0; bit < 8; bit += 7) {
                Master master = new Master();
                int[] wrong = flipped(bytes, at, bit);
                check.due("all but one, " + at + " is wrong", master.bring(Arrays.copyOf(wrong, end - 1)), end - 1);
                check.due("the sum's last, " + at + " is wrong", master.bring(wrong[end - 1]), 0);
                check.due("a right frame behind it", master.bring(request()), 0);
                check.due("is answered", master.station.sent(-1), ANSWERED);
            }
        }
    }

    @Holds("two bytes, the lower one first.")
    static void sumsTheOtherWayRound(Check check) {
        int[] head = request();
        int[] block = request();
        int[] sums = {head[8], head[9], block[13], block[14]};
        head[8] = sums[1];
        head[9] = sums[0];
        block[13] = sums[3];
        block[14] = sums[2];
        check.due("they differ", sums[0] != sums[1] && sums[2] != sums[3]);
        for (int[] bytes : new int[][] {head, block}) {
            Master master = new Master();
            master.bring(bytes);
            check.due("nothing is sent", master.station.sent(-1), 0);
        }
    }

    @Holds("its first byte goes, and so on;")
    static void whatIsLeftMayBegin(Check check) {
        check.due("5 5 5 100", leftOf(5, 5, 5, 100), 2);
        check.due("5 100 5 100 6", leftOf(5, 100, 5, 100, 6), 3);
        check.due("5 100 100 5", leftOf(5, 100, 100, 5), 1);
        check.due("5 100 46 5 100 45", leftOf(5, 100, 46, 5, 100, 45), 3);
        check.due("a wrong head with another one begun in it", leftOf(5, 100, 8, 5, 100, 8, 196, 10, 0, 3), 7);
        check.due("with a 5 at its end", leftOf(5, 100, 8, 196, 10, 0, 3, 0, 0, 5), 1);
        check.due("with two that are none and one that is", leftOf(5, 100, 8, 5, 100, 5, 100, 46, 5, 100), 2);
    }

    @Holds("its first byte goes, and so on;")
    static void aFrameInsideABrokenOne(Check check) {
        int[] head = Master.frameHead(45, 196, 10, 3);
        Master master = new Master();
        check.due("a long one waits", master.bring(Master.join(head, request())), 25);
        check.due("for its first block", master.bring(7, 7), 27);
        check.due("whose sum is wrong", master.bring(7), 0);
        check.due("and the one inside is answered", master.station.sent(-1), ANSWERED);

        Master late = new Master();
        check.due("a right block", late.bring(Master.join(head, Master.withSum(Master.times(16, 1)))), 28);
        check.due("a wrong one with a frame and more in it", late.bring(Master.join(request(), new int[] {5, 100, 8})), 3);
        check.due("is answered", late.station.sent(-1), ANSWERED);
    }

    @Holds("its first byte goes, and so on; a whole frame goes at once,")
    static void severalFramesInsideABrokenOne(Check check) {
        int[] block = Master.withSum(Master.join(request(), new int[] {5}));
        Master master = new Master();
        int[] all = Master.join(Master.frameHead(45, 196, 10, 3), block, block, Master.times(9, 5));
        check.due("two right blocks and most of a third", master.bring(all), 55);
        check.due("nothing is sent yet", master.station.sent(-1), 0);
        check.due("the third one's sum is wrong", master.station.hear(5, 1), 1);
        check.due("both frames are answered at once", master.station.sent(-1), 2 * ANSWERED);
    }

    @Holds("HEARING: what the master's line brings are bytes in a row.")
    static void framesCutAnywhere(Check check) {
        int[] bytes = Master.join(request(), new int[] {5, 5, 100, 7}, request(17), request());
        for (int cut = 1; cut < bytes.length; cut++) {
            Master master = new Master();
            master.bring(Arrays.copyOf(bytes, cut));
            check.due("cut at " + cut, master.bring(Arrays.copyOfRange(bytes, cut, bytes.length)), 0);
            check.due("all answered, cut at " + cut, master.station.sent(-1), 3 * ANSWERED);
        }
    }

    @Holds({"then the PAYLOAD, n - 5 bytes (1 to 40), in blocks of 16 (the last one what is left),",
        "a whole frame goes at once,"})
    static void payloadsOfAllLengths(Check check) {
        for (int n = 1; n <= 40; n++) {
            Master master = new Master();
            int[] bytes = request(n);
            int[] butOne = Arrays.copyOf(bytes, bytes.length - 1);
            check.due("all but a byte of " + n, master.bring(butOne), 10 + n + (n + 15) / 16 * 2 - 1);
            check.due("all of " + n, master.bring(bytes[bytes.length - 1]), 0);
            check.due("sent for " + n, master.station.sent(-1), n < 3 ? 0 : ANSWERED);
        }
    }

    @Holds("in blocks of 16 (the last one what is left), each with its sum behind it.")
    static void otherBlocks(Check check) {
        int[] payload = Arrays.copyOf(new int[] {192, 192, 9}, 20);
        int[] head = Master.frameHead(25, 196, 10, 3);
        Master inOne = new Master();
        inOne.bring(Master.join(head, Master.withSum(payload), new int[] {0, 0}));
        check.due("one block of 20", inOne.station.sent(-1), 0);
        Master inTens = new Master();
        int[] ten = Master.withSum(Arrays.copyOf(payload, 10));
        inTens.bring(Master.join(head, ten, Master.withSum(Master.times(10, 0))));
        check.due("two blocks of 10", inTens.station.sent(-1), 0);
        Master empty = new Master();
        check.due("no block behind a full one", empty.bring(Master.join(request(16), new int[] {255, 255})), 0);
        check.due("it is whole without", empty.station.sent(-1), ANSWERED);
    }

    @Holds("and is taken when its C is 196")
    static void everyC(Check check) {
        for (int c = 0; c < 256; c++) {
            Master master = new Master();
            check.due("C " + c + " goes", master.bring(Master.frame(c, 10, 3, 192, 192, 1)), 0);
            check.due("C " + c, master.station.sent(-1), c == 196 ? ANSWERED : 0);
        }
    }

    @Holds({"and TO is 10 (others are passed over).",
        "A FRAME: 5, 100, n, C, two bytes TO (lower first), two bytes FROM, the sum of these eight;"})
    static void otherReceivers(Check check) {
        for (int to : new int[] {0, 2, 8, 9, 10, 11, 14, 138, 255, 266, 2560, 2570, 32778, 65290, 65535}) {
            Master master = new Master();
            check.due("TO " + to + " goes", master.bring(Master.frame(196, to, 3, 192, 192, 1)), 0);
            check.due("TO " + to, master.station.sent(-1), to == 10 ? ANSWERED : 0);
        }
    }

    @Holds("(others are passed over).")
    static void otherFramesLeaveTheFragment(Check check) {
        Master master = new Master();
        master.bringPart(Master.FIRST, 192);
        master.bring(Master.frame(196, 11, 3, Master.FIRST, 1));
        master.bring(Master.frame(68, 10, 3, Master.LAST + 9, 1));
        master.bringPart(Master.LAST + 1, 1);
        check.due("the request", master.answer(), 192, 129, 128, 0);
    }
}
