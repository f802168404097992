import java.util.Arrays;

/** Promise 5: READ with headers that give nothing but a sign. */
public final class Promise05ReadSignsTest {
    private static final int[][] RIGHT = {{1, 2, 0, 0, 0}, {1, 2, 6}, {30, 1, 0, 0, 0}, {30, 1, 6}, {60, 1, 6},
        {60, 2, 6}, {60, 2, 7, 1}, {60, 3, 6}, {60, 3, 7, 1}};

    public static void main(String[] args) {
        Check.run(Promise05ReadSignsTest.class);
    }

    private static boolean isRight(int group, int variation, int qualifier) {
        return Arrays.stream(RIGHT).anyMatch(h -> h[0] == group && h[1] == variation && h[2] == qualifier);
    }

    private static void dueSign(Check check, int sign, int... header) {
        check.due("header " + Arrays.toString(header), Master.withEvents(1, 1).read(header),
            Master.answerOf(192, 134, sign));
    }

    @Holds("Another group, variation or qualifier with these: sign OBJECT.")
    static void otherGroupsAndVariations(Check check) {
        for (int group = 0; group < 256; group++) {
            for (int variation : new int[] {0, 1, 2, 3, 4, 255}) {
                for (int qualifier : new int[] {0, 6, 7}) {
                    if (!isRight(group, variation, qualifier)) {
                        dueSign(check, Master.OBJECT, group, variation, qualifier, 1, 1);
                    }
                }
            }
        }
    }

    @Holds({"Another group, variation or qualifier with these: sign OBJECT.", "23 a byte n, and n objects."})
    static void otherQualifiers(Check check) {
        for (int[] right : RIGHT) {
            for (int qualifier = 0; qualifier < 256; qualifier++) {
                if (!isRight(right[0], right[1], qualifier)) {
                    dueSign(check, Master.OBJECT, right[0], right[1], qualifier, 1, 1);
                }
            }
        }
    }

    @Holds({"Another group, variation or qualifier with these: sign OBJECT.",
        "(when it has fewer than three bytes, whatever they are): sign PARAMETER."})
    static void otherObjectsCutShort(Check check) {
        dueSign(check, Master.OBJECT, 99, 1, 0);
        dueSign(check, Master.OBJECT, 99, 1, 7);
        dueSign(check, Master.OBJECT, 60, 2, 0);
        dueSign(check, Master.OBJECT, 60, 1, 7);
        dueSign(check, Master.OBJECT, 1, 2, 7);
        dueSign(check, Master.OBJECT, 1, 2, 23);
        dueSign(check, Master.PARAMETER, 99, 1);
    }

    @Holds({"A last below the first,", "or above 7,"})
    static void firstsAndLasts(Check check) {
        int[] some = {0, 1, 3, 6, 7, 8, 9, 127, 128, 255};
        for (int first : some) {
            for (int last : some) {
                if (last < first || last > 7) {
                    dueSign(check, Master.PARAMETER, 1, 2, 0, first, last);
                    dueSign(check, Master.PARAMETER, 30, 1, 0, first, last);
                } else {
                    int[] answer = Master.withEvents(1, 1).read(1, 2, 0, first, last);
                    check.due("length of " + first + " to " + last, answer.length, 4 + 5 + last - first + 1);
                    check.due("no sign for " + first + " to " + last, answer[3], 0);
                }
            }
        }
    }

    @Holds("or a header that is not all there")
    static void headersCutShort(Check check) {
        for (int[] right : RIGHT) {
            for (int length = 1; length < right.length; length++) {
                dueSign(check, Master.PARAMETER, Arrays.copyOf(right, length));
                int[] behind = Master.join(new int[] {1, 2, 0, 7, 7}, Arrays.copyOf(right, length));
                check.due("behind a right one " + Arrays.toString(behind), Master.withEvents(1, 1).read(behind),
                    Master.answerOf(192, 134, Master.PARAMETER, 1, 2, 0, 7, 7, 1));
            }
        }
    }

    @Holds("(when it has fewer than three bytes, whatever they are): sign PARAMETER.")
    static void oneOrTwoBytes(Check check) {
        for (int b = 0; b < 256; b++) {
            dueSign(check, Master.PARAMETER, b);
            for (int second : new int[] {0, 1, 2, 3, 6, 99, 255}) {
                dueSign(check, Master.PARAMETER, b, second);
            }
        }
    }

    @Holds("These give nothing, and what follows them is not looked at.")
    static void whatStandsBeforeAndBehind(Check check) {
        int[][] wrong = {{5, 5, 6}, {1, 2, 7, 1}, {1, 2, 0, 3, 2}, {30, 1, 0, 0, 8}, {60, 1, 6}};
        int[] signs = {Master.OBJECT, Master.OBJECT, Master.PARAMETER, Master.PARAMETER, Master.PARAMETER};
        for (int i = 0; i < wrong.length; i++) {
            for (int[] right : RIGHT) {
                Master master = Master.withEvents(1, 1);
                check.due(Arrays.toString(wrong[i]) + " before " + Arrays.toString(right),
                    master.read(Master.join(new int[] {1, 2, 0, 0, 0}, wrong[i], right)),
                    Master.answerOf(192, 134, signs[i], 1, 2, 0, 0, 0, 129));
            }
        }
        check.due("events that stand before", Master.withEvents(1, 1).read(60, 2, 6, 5, 5, 6, 60, 3, 6),
            Master.answerOf(224, 134, Master.OBJECT, 2, 1, 23, 1, 0, 129));
        check.due("one sign alone", Master.withEvents(1, 1).read(1, 2, 0, 9, 9, 5, 5, 6),
            Master.answerOf(192, 134, Master.PARAMETER));
    }

    @Holds({"1 READ: each header in its order:", "and it is not longer than 60 then;"})
    static void asManyHeadersAsThereCanBe(Check check) {
        int[] nineteen = Master.join(Master.times(18, 60, 2, 6), new int[] {1, 2, 6});
        check.due("19 headers, the last one gives something", new Master().read(nineteen),
            Master.answerOf(192, 128, 0, 1, 2, 0, 0, 7, 1, 1, 1, 1, 1, 1, 1, 1));
        int[] full = Master.join(Master.times(13, 60, 2, 7, 0), new int[] {60, 3, 6, 60, 2, 6});
        check.due("58 bytes of headers", full.length, 58);
        check.due("the last of them", Master.withEvents(1, 0).read(full),
            Master.answerOf(224, 130, 0, 2, 1, 23, 1, 0, 129));
        check.due("the last two bytes are no header", new Master().read(Master.join(Master.times(14, 60, 2, 7, 0),
            new int[] {60, 2})), Master.answerOf(192, 128, Master.PARAMETER));
    }
}
