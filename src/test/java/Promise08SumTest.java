/** Promise 8: the sum of some bytes. */
public final class Promise08SumTest {
    public static void main(String[] args) {
        Check check = new Check();
        OutStation x = new OutStation();
        check.due("of none", x.sum(0, 0), 65535);
        check.due("of none, whatever bytes has", x.sum(-1, 0), 65535);
        check.due("of 97", x.sum(97, 1), 45904);
        check.due("of eight bytes", x.sum(361984551142689548L, 8), 33886);
        check.due("the other way round it is the same", Master.sumOf(97), 45904);
        long seed = 1;
        for (int i = 0; i < 200; i++) {
            seed = seed * 6364136223846793005L + 1442695040888963407L;
            int n = i % 9;
            int[] bytes = new int[n];
            for (int k = 0; k < n; k++) {
                bytes[k] = (int) (seed >>> 8 * (n - 1 - k)) & 255;
            }
            check.due("sum(" + seed + ", " + n + ")", x.sum(seed, n), Master.sumOf(bytes));
        }
        for (int n : new int[] {-1, 9, Integer.MIN_VALUE, Integer.MAX_VALUE}) {
            check.badArgument("n is " + n, () -> x.sum(1, n));
        }
        askingInBetweenIsNotHeard(check);
        check.end();
    }

    private static void askingInBetweenIsNotHeard(Check check) {
        OutStation x = new OutStation();
        x.hear(Master.packed(5, 100, 7), 3);
        check.due("a sum", x.sum(97, 1), 45904);
        check.due("the row is as it was", x.hear(196, 1), 4);
    }
}
