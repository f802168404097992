import java.util.Random;

/** Whatever is called: only the document's exceptions, and hearing does not depend on how bytes come together. */
public final class AnyCallsTest {
    private static final int[] EDGES = {Integer.MIN_VALUE, -2, -1, 0, 1, 2, 3, 4, 7, 8, 9, 100, 101, 255, 256, Integer.MAX_VALUE};

    public static void main(String[] args) {
        Check.run(AnyCallsTest.class);
    }

    @Holds({"A call of the face throws exactly what and where the document says, and nothing else ever reaches its caller.",
        "No call may ever throw by itself (only by a throw statement) or fail to end, for any arguments in any state:"})
    static void anyArguments(Check check) {
        for (int seed = 1; seed <= 300; seed++) {
            callWithAnyArguments(check, new Random(seed));
        }
    }

    @Holds("HEARING: what the master's line brings are bytes in a row.")
    static void manyOrFewBytesAtOnce(Check check) {
        for (int seed = 1; seed <= 300; seed++) {
            bringTogetherAndOneByOne(check, new Random(seed));
        }
    }

    private static int any(Random random) {
        return random.nextInt(3) > 0 ? random.nextInt(10) - 1 : EDGES[random.nextInt(EDGES.length)];
    }

    private static void callWithAnyArguments(Check check, Random random) {
        OutStation x = new OutStation();
        Master master = new Master(x, 3);
        int thrown = 0;
        for (int i = 0; i < 300; i++) {
            int which = random.nextInt(10);
            try {
                anyCall(x, master, which, random);
            } catch (IllegalArgumentException e) {
                thrown += which == 4 || which == 6 ? 1 : 0;
            } catch (IndexOutOfBoundsException e) {
                thrown += e.getClass() == IndexOutOfBoundsException.class && (which == 4 || which == 6) ? 0 : 1;
            } catch (RuntimeException e) {
                thrown++;
            }
        }
        check.due("exceptions that no promise names", thrown, 0);
    }

    private static void anyCall(OutStation x, Master master, int which, Random random) {
        switch (which) {
            case 0 -> x.change(any(random), any(random), any(random));
            case 1 -> x.point(any(random), any(random));
            case 2 -> x.events(any(random));
            case 3 -> x.pass(any(random));
            case 4 -> x.sent(any(random));
            case 5 -> x.ask(random.nextLong(), any(random));
            case 6 -> x.told(any(random));
            case 7 -> x.sum(random.nextLong(), any(random));
            case 8 -> x.hear(random.nextLong(), any(random));
            default -> master.bring(anyFrame(random));
        }
    }

    private static int[] anyFrame(Random random) {
        int[][] starts = {{1}, {1, 60, 2, 6}, {1, 60, 3, 6, 60, 2, 6}, {1, 60, 1, 6}, {3, 12, 1, 23, 1}, {4, 12, 1, 23, 1},
            {5, 12, 1, 23, 1}, {0}, {2, 80, 1, 0, 7, 7, 0}, {}};
        int[] tail = random.ints(random.nextInt(8), 0, 8).toArray();
        int head = random.nextInt(4) > 0 ? 192 : random.nextInt(256);
        int[] payload = Master.join(new int[] {head, 192 + random.nextInt(16)}, starts[random.nextInt(starts.length)], tail);
        int[] bytes = Master.frame(196, 10, 3, payload);
        if (random.nextInt(6) == 0) {
            bytes[random.nextInt(bytes.length)] ^= 1 << random.nextInt(8);
        }
        return bytes;
    }

    private static void bringTogetherAndOneByOne(Check check, Random random) {
        OutStation one = new OutStation();
        OutStation other = new OutStation();
        for (int p = 0; p < 8; p++) {
            one.change(1, p, p * 1000);
            other.change(1, p, p * 1000);
        }
        int[] bytes = new int[0];
        for (int i = 0; i < 5; i++) {
            bytes = Master.join(bytes, anyFrame(random));
        }
        int left = new Master(one, 3).bring(bytes);
        int leftOther = 0;
        for (int b : bytes) {
            leftOther = other.hear(b, 1);
        }
        check.due("bytes left", leftOther, left);
        int sent = one.sent(-1);
        check.due("bytes sent", other.sent(-1), sent);
        for (int k = 0; k < Math.min(256, sent); k++) {
            check.due("sent(" + k + ")", other.sent(k), one.sent(k));
        }
    }
}
