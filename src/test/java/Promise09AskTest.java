import java.util.Arrays;

/** Promise 9: questions of the other master. */
public final class Promise09AskTest {
    public static void main(String[] args) {
        Check.run(Promise09AskTest.class);
    }

    /** Binary points 0, 3 and 7 are 1; analog ones are numbers whose bytes all differ. */
    private static OutStation withValues() {
        OutStation x = new OutStation();
        for (int p : new int[] {0, 3, 7}) {
            x.change(0, p, 1);
        }
        for (int p = 0; p < 8; p++) {
            x.change(1, p, 0xF0E1D2C3 + 0x01010101 * p);
        }
        return x;
    }

    private static int[] asked(OutStation x, int... question) {
        int[] answer = new int[x.ask(Master.packed(question), question.length)];
        for (int k = 0; k < answer.length; k++) {
            answer[k] = x.told(k);
        }
        return answer;
    }

    @Holds({"QUESTIONS (of the other master, each by itself): 1, two bytes first, two bytes n (higher ones first):",
        "the answer is 1, 1, and a byte with the binary points first to first + n - 1 in its bits from the lowest on."})
    static void everyRangeOfBits(Check check) {
        for (int first = 0; first < 8; first++) {
            OutStation x = withValues();
            for (int n = 1; first + n <= 8; n++) {
                int bits = 0b10001001 >> first & (1 << n) - 1;
                check.due("bits " + first + " and " + n, asked(x, 1, 0, first, 0, n), 1, 1, bits);
            }
        }
    }

    @Holds({"4 likewise for n words of the analog ones, point p is words 2 p (its higher half) and 2 p + 1:",
        "the answer is 4, 2 n, and the words, higher bytes first."})
    static void everyRangeOfWords(Check check) {
        for (int first = 0; first < 16; first++) {
            OutStation x = withValues();
            for (int n = 1; n <= 4 && first + n <= 16; n++) {
                int[] due = {4, 2 * n};
                for (int w = first; w < first + n; w++) {
                    int value = x.point(1, w / 2);
                    int word = w % 2 == 0 ? value >>> 16 : value & 0xFFFF;
                    due = Master.join(due, new int[] {word >> 8, word & 255});
                }
                check.due("words " + first + " and " + n, asked(x, 4, 0, first, 0, n), due);
            }
        }
    }

    @Holds("the answer is 4, 2 n, and the words, higher bytes first.")
    static void wordsOfEdgeValues(Check check) {
        OutStation x = new OutStation();
        x.change(1, 0, Integer.MIN_VALUE);
        x.change(1, 1, -2);
        x.change(1, 7, Integer.MAX_VALUE);
        check.due("the least int and -2", asked(x, 4, 0, 0, 0, 4), 4, 8, 128, 0, 0, 0, 255, 255, 255, 254);
        check.due("a half of each", asked(x, 4, 0, 1, 0, 2), 4, 4, 0, 0, 255, 255);
        check.due("the greatest int", asked(x, 4, 0, 14, 0, 2), 4, 4, 127, 255, 255, 255);
    }

    @Holds("n is 1 to 8 for 1, 1 to 4 for 4 (otherwise 129 or 132, and 3);")
    static void wrongNumbers(Check check) {
        OutStation x = withValues();
        for (int first : new int[] {0, 7, 8, 15, 16, 255}) {
            for (int n : new int[] {0, 9, 10, 255}) {
                check.due("bits " + first + " and " + n, asked(x, 1, 0, first, 0, n), 129, 3);
            }
            for (int n : new int[] {0, 5, 8, 255}) {
                check.due("words " + first + " and " + n, asked(x, 4, 0, first, 0, n), 132, 3);
            }
        }
        check.due("eight bits", asked(x, 1, 0, 0, 0, 8), 1, 1, 0b10001001);
        check.due("four words", asked(x, 4, 0, 0, 0, 4).length, 2 + 8);
    }

    @Holds({"two bytes n (higher ones first):", "(otherwise 129 or 132, and 3);"})
    static void numbersWithAHigherByte(Check check) {
        OutStation x = withValues();
        for (int high : new int[] {1, 2, 127, 128, 255}) {
            for (int low : new int[] {0, 1, 4, 8, 255}) {
                check.due("bits, n " + high + " " + low, asked(x, 1, 0, 0, high, low), 129, 3);
                check.due("words, n " + high + " " + low, asked(x, 4, 0, 0, high, low), 132, 3);
            }
        }
    }

    @Holds("all must be there (otherwise 129 or 132, and 2);")
    static void notAllThere(Check check) {
        for (int n = 1; n <= 8; n++) {
            OutStation x = withValues();
            for (int first = 0; first <= 20; first++) {
                int[] bits = asked(x, 1, 0, first, 0, n);
                check.due("bits " + first + " and " + n, bits[0], first + n <= 8 ? 1 : 129);
                check.due("its second byte", bits[1], first + n <= 8 ? 1 : 2);
            }
        }
        for (int n = 1; n <= 4; n++) {
            OutStation x = withValues();
            for (int first = 0; first <= 20; first++) {
                int[] words = asked(x, 4, 0, first, 0, n);
                check.due("words " + first + " and " + n, words[0], first + n <= 16 ? 4 : 132);
                check.due("its second byte", words[1], first + n <= 16 ? 2 * n : 2);
            }
        }
    }

    @Holds({"two bytes first, two bytes n (higher ones first):", "all must be there (otherwise 129 or 132, and 2);"})
    static void firstsWithAHigherByte(Check check) {
        OutStation x = withValues();
        for (int high : new int[] {1, 127, 128, 255}) {
            for (int low : new int[] {0, 7, 8, 255}) {
                check.due("bits, first " + high + " " + low, asked(x, 1, high, low, 0, 1), 129, 2);
                check.due("words, first " + high + " " + low, asked(x, 4, high, low, 0, 4), 132, 2);
            }
        }
        check.due("65535 and 8 bits", asked(x, 1, 255, 255, 0, 8), 129, 2);
    }

    @Holds("with other first bytes f the answer is (f modulo 128) + 128, and 1.")
    static void otherFirstBytes(Check check) {
        for (int f = 0; f < 256; f++) {
            if (f != 1 && f != 4) {
                OutStation x = withValues();
                int due = f < 128 ? f + 128 : f;
                check.due("first byte " + f, asked(x, f, 0, 0, 0, 1), due, 1);
                check.due("alone " + f, asked(x, f), due, 1);
                check.due("with a wrong n " + f, asked(x, f, 0, 0, 0, 0, 0, 0, 9), due, 1);
            }
        }
    }

    @Holds("A question of 1 or 4 that has not five bytes: as with a wrong n.")
    static void otherLengths(Check check) {
        OutStation x = withValues();
        int[] bytes = {0, 0, 0, 0, 0, 1, 0, 1};
        for (int n = 1; n <= 8; n++) {
            if (n != 5) {
                for (int f = 1; f <= 4; f += 3) {
                    int[] question = Master.join(f, Arrays.copyOf(bytes, n - 1));
                    check.due(n + " bytes of " + f, asked(x, question), 128 + f, 3);
                }
            }
        }
        check.due("a right question and a byte more", asked(x, 1, 0, 0, 0, 1, 0), 129, 3);
        check.due("a byte less", asked(x, 4, 0, 0, 1), 132, 3);
        check.due("far away, and a byte more", asked(x, 4, 255, 255, 0, 1, 1), 132, 3);
    }

    @Holds("A question of n bytes (1 .. 8, as for hear): how many bytes the answer has.")
    static void howManyBytes(Check check) {
        OutStation x = withValues();
        check.due("bits", x.ask(Master.packed(1, 0, 0, 0, 8), 5), 3);
        for (int n = 1; n <= 4; n++) {
            check.due(n + " words", x.ask(Master.packed(4, 0, 0, 0, n), 5), 2 + 2 * n);
        }
        check.due("a refusal", x.ask(9, 1), 2);
        check.due("only the lowest five", x.ask(0xABCDEFL << 40 | Master.packed(1, 0, 3, 0, 1), 5), 3);
        check.due("its bit", x.told(2), 1);
        check.due("eight bytes, the first one above 127", x.ask(-1L, 8), 2);
        check.due("its first byte", x.told(0), 255);
    }

    @Holds("how many bytes the answer has. IllegalArgumentException: n is not so.")
    static void refusedNumbersOfBytes(Check check) {
        OutStation x = withValues();
        x.ask(Master.packed(1, 0, 0, 0, 8), 5);
        for (int n : new int[] {Integer.MIN_VALUE, -5, -1, 0, 9, 13, Integer.MAX_VALUE}) {
            check.badArgument("ask(1, " + n + ")", () -> x.ask(Master.packed(1, 0, 0, 0, 1), n));
        }
        check.due("the latest answer stays", x.told(2), 0b10001001);
    }

    @Holds("QUESTIONS (of the other master, each by itself)")
    static void nothingElseChanges(Check check) {
        Master master = Master.withEvents(7, 1);
        master.read(60, 3, 6);
        master.bring(5, 100);
        int sent = master.station.sent(-1);
        asked(master.station, 1, 0, 0);
        check.due("what was asked before is of no matter", asked(master.station, 1, 0, 0, 0, 1), 1, 1, 1);
        check.due("nothing is sent", master.station.sent(-1), sent);
        check.due("events stay", master.station.events(0) + master.station.events(1), 7);
        check.due("nothing is heard", master.station.hear(6, 1), 3);
    }
}
