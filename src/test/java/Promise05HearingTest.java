import java.util.Arrays;

/** Promise 5: the row of bytes on the line, and the frames that it brings. */
public final class Promise05HearingTest {
    private static final int[] READ_NOTHING = {192, 192, 1};

    public static void main(String[] args) {
        Check check = new Check();
        theLowestBytesTheHighestFirst(check);
        whatCannotBeginAFrameGoes(check);
        wrongSums(check);
        blocksOfSixteen(check);
        everyPlaceOfACut(check);
        frameInsideABrokenOne(check);
        framesForOthers(check);
        refusals(check);
        check.end();
    }

    private static int[] request() {
        return Master.frame(196, 10, 3, READ_NOTHING);
    }

    private static int[] spoilt(int[] bytes, int at) {
        int[] other = bytes.clone();
        other[at] ^= 1;
        return other;
    }

    private static void theLowestBytesTheHighestFirst(Check check) {
        OutStation x = new OutStation();
        check.due("two of eight", x.hear(0xFFFFFFFFFFFF0564L, 2), 2);
        check.due("a third one", x.hear(0x0564050505050508L, 1), 3);
        check.due("five of eight", x.hear(0x000000C40A000300L, 5), 8);
        check.due("the sum and three more", x.hear(Master.packed(25, 89, 192, 192, 1), 5), 13);
        int sum = Master.sumOf(READ_NOTHING);
        check.due("the rest", x.hear(Master.packed(sum & 255, sum >> 8), 2), 0);
        check.due("the answer is sent", x.sent(-1), 17);
    }

    private static void whatCannotBeginAFrameGoes(Check check) {
        check.due("a first byte that is not 5", new OutStation().hear(4, 1), 0);
        check.due("many of them", new OutStation().hear(-1L, 8), 0);
        check.due("a second one that is not 100", new OutStation().hear(Master.packed(5, 99), 2), 0);
        check.due("but it may be a first one", new OutStation().hear(Master.packed(5, 5), 2), 1);
        check.due("a third one of 5", new OutStation().hear(Master.packed(5, 100, 5), 3), 1);
        check.due("a third one of 6", new OutStation().hear(Master.packed(5, 100, 6), 3), 3);
        check.due("a third one of 45", new OutStation().hear(Master.packed(5, 100, 45), 3), 3);
        check.due("a third one of 46", new OutStation().hear(Master.packed(5, 100, 46), 3), 0);
        check.due("a frame that begins late", new OutStation().hear(Master.packed(5, 5, 100, 5, 100, 6, 7), 7), 4);
    }

    private static void wrongSums(Check check) {
        for (int at = 3; at < 10; at++) {
            Master master = new Master(new OutStation());
            int[] bytes = spoilt(request(), at);
            check.due("a wrong head, byte " + at, master.bring(Arrays.copyOf(bytes, 10)), 0);
        }
        for (int at = 10; at < 15; at++) {
            Master master = new Master(new OutStation());
            check.due("a wrong block, byte " + at, master.bring(spoilt(request(), at)), 0);
            check.due("nothing is sent", master.station.sent(-1), 0);
            check.due("a right one behind it", master.bring(request()), 0);
            check.due("is answered", master.station.sent(-1), 17);
        }
        Master master = new Master(new OutStation());
        check.due("nine bytes of a head may be right", master.bring(Arrays.copyOf(spoilt(request(), 8), 9)), 9);
    }

    /** Payloads round the ends of the blocks: all but the last have 16 bytes. */
    private static void blocksOfSixteen(Check check) {
        for (int n : new int[] {1, 2, 15, 16, 17, 31, 32, 33, 39, 40}) {
            int[] payload = new int[n];
            payload[0] = 192;
            for (int i = 1; i < n; i++) {
                payload[i] = i == 1 ? 192 : 9;
            }
            int[] bytes = Master.frame(196, 10, 3, payload);
            Master master = new Master(new OutStation());
            int[] butOne = Arrays.copyOf(bytes, bytes.length - 1);
            check.due("all but a byte of " + n, master.bring(butOne), bytes.length - 1);
            check.due("all of " + n, master.bring(bytes[bytes.length - 1]), 0);
            check.due("answered " + n, master.station.sent(-1), n < 3 ? 0 : 17);
        }
        int[] payload = new int[40];
        payload[0] = 192;
        int[] bytes = Master.frame(196, 10, 3, payload);
        for (int end : new int[] {28, 46, 56}) {
            Master master = new Master(new OutStation());
            int[] wrong = Arrays.copyOf(spoilt(bytes, end - 1), end);
            check.due("a wrong sum at " + end + " is seen at once", master.bring(wrong), 0);
            Master other = new Master(new OutStation());
            check.due("and not before " + end, other.bring(Arrays.copyOf(wrong, end - 1)), end - 1);
        }
    }

    private static void everyPlaceOfACut(Check check) {
        int[] bytes = Master.join(request(), request());
        for (int cut = 1; cut < bytes.length; cut++) {
            Master master = new Master(new OutStation());
            master.bring(Arrays.copyOf(bytes, cut));
            int left = master.bring(Arrays.copyOfRange(bytes, cut, bytes.length));
            check.due("cut at " + cut, left, 0);
            check.due("both answered, cut at " + cut, master.station.sent(-1), 34);
        }
    }

    private static void frameInsideABrokenOne(Check check) {
        int[] head = Master.withSum(5, 100, 45, 196, 10, 0, 3, 0);
        Master master = new Master(new OutStation());
        check.due("a long one waits", master.bring(Master.join(head, request())), 25);
        check.due("for its first block", master.bring(7, 7), 27);
        check.due("whose sum is wrong", master.bring(7), 0);
        check.due("and the one inside is answered", master.station.sent(-1), 17);

        Master two = new Master(new OutStation());
        int[] block = Master.withSum(Master.times(16, 1));
        check.due("a right block", two.bring(Master.join(head, block)), 28);
        int left = two.bring(Master.join(request(), new int[] {5, 100, 8}));
        check.due("and a wrong one with a frame and more in it", left, 3);
        check.due("is answered", two.station.sent(-1), 17);
    }

    private static void framesForOthers(Check check) {
        Master master = new Master(new OutStation());
        check.due("another C", master.bring(Master.frame(68, 10, 3, READ_NOTHING)), 0);
        check.due("another lower TO", master.bring(Master.frame(196, 11, 3, READ_NOTHING)), 0);
        check.due("another higher TO", master.bring(Master.frame(196, 266, 3, READ_NOTHING)), 0);
        check.due("nothing is sent", master.station.sent(-1), 0);
        master.bringPart(64, 192);
        master.bring(Master.frame(196, 11, 3, 64, 1));
        master.bringPart(129, 1);
        check.due("they leave the fragment alone", master.answer(), 192, 129, 128, 0);
    }

    private static void refusals(Check check) {
        OutStation x = new OutStation();
        x.hear(5, 1);
        for (int n : new int[] {-1, 0, 9, Integer.MIN_VALUE, Integer.MAX_VALUE}) {
            check.badArgument("n is " + n, () -> x.hear(1, n));
        }
        check.due("the row is as it was", x.hear(100, 1), 2);
    }
}
