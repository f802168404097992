/** Promise 8: the sum of some bytes. */
public final class Promise08SumTest {
    public static void main(String[] args) {
        Check.run(Promise08SumTest.class);
    }

    @Holds("THE SUM of some bytes: c is 0;")
    static void ofNoBytes(Check check) {
        OutStation x = new OutStation();
        for (long bytes : new long[] {0, 1, -1, Long.MIN_VALUE, Long.MAX_VALUE}) {
            check.due("sum(" + bytes + ", 0)", x.sum(bytes, 0), 65535);
        }
    }

    @Holds("for each byte c becomes c ^ byte, then eight times: c / 2, and ^ 42684 when it was odd; the sum is 65535 - c,")
    static void byHand(Check check) {
        OutStation x = new OutStation();
        check.due("a byte 0 leaves c at 0", x.sum(0, 1), 65535);
        check.due("so do eight of them", x.sum(0, 8), 65535);
        // 128 is halved seven times before it is odd.
        check.due("a byte 128", x.sum(128, 1), 65535 - 42684);
        check.due("a byte 64", x.sum(64, 1), 65535 - 42684 / 2);
        check.due("a byte 97", x.sum(97, 1), 45904);
        check.due("eight bytes", x.sum(361984551142689548L, 8), 33886);
    }

    @Holds("for each byte c becomes c ^ byte, then eight times: c / 2, and ^ 42684 when it was odd; the sum is 65535 - c,")
    static void everyByte(Check check) {
        OutStation x = new OutStation();
        OutStation y = new OutStation();
        for (int b = 0; b < 256; b++) {
            check.due("sum(" + b + ", 1)", x.sum(b, 1), Master.sumOf(b));
            check.due("a byte " + b + " behind 255", y.sum(0xFF00 + b, 2), Master.sumOf(255, b));
        }
    }

    @Holds("The sum of n bytes (0 .. 8, as for hear).")
    static void theLowestBytesTheHighestFirst(Check check) {
        OutStation x = new OutStation();
        long seed = 1;
        for (int i = 0; i < 50; i++) {
            seed = seed * 6364136223846793005L + 1442695040888963407L;
            for (int n = 0; n <= 8; n++) {
                int[] bytes = new int[n];
                for (int k = 0; k < n; k++) {
                    bytes[k] = (int) (seed >>> 8 * (n - 1 - k)) & 255;
                }
                check.due("sum(" + seed + ", " + n + ")", x.sum(seed, n), Master.sumOf(bytes));
            }
        }
        check.due("eight bytes of 255", x.sum(-1, 8), Master.sumOf(Master.times(8, 255)));
        check.due("the order counts", x.sum(0x0102, 2) != x.sum(0x0201, 2));
    }

    @Holds("The sum of n bytes (0 .. 8, as for hear). IllegalArgumentException: n is not so.")
    static void refusedNumbersOfBytes(Check check) {
        OutStation x = new OutStation();
        for (int n : new int[] {Integer.MIN_VALUE, -8, -1, 9, 10, 64, Integer.MAX_VALUE}) {
            check.badArgument("sum(1, " + n + ")", () -> x.sum(1, n));
        }
        check.due("the next sum", x.sum(97, 1), 45904);
    }

    @Holds("The sum of n bytes (0 .. 8, as for hear).")
    static void nothingIsHeardOfIt(Check check) {
        OutStation x = new OutStation();
        x.hear(Master.packed(5, 100, 8, 196, 10, 0, 3, 0), 8);
        check.due("a sum", x.sum(97, 1), 45904);
        check.due("the row is as it was", x.hear(Master.packed(25, 89, 192, 192, 1), 5), 13);
        check.due("a sum between the bytes of a block", x.sum(0xC0C001, 3), Master.sumOf(192, 192, 1));
        int sum = Master.sumOf(192, 192, 1);
        check.due("the frame is whole", x.hear(Master.packed(sum & 255, sum >> 8), 2), 0);
        check.due("and answered", x.sent(-1), 17);
    }
}
