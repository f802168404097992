/** Promise 9: questions of the other master. */
public final class Promise09AskTest {
    public static void main(String[] args) {
        Check check = new Check();
        bits(check);
        words(check);
        wrongNumbers(check);
        notThere(check);
        otherFirstBytes(check);
        otherLengths(check);
        OutStation x = new OutStation();
        for (int n : new int[] {-1, 0, 9, Integer.MIN_VALUE, Integer.MAX_VALUE}) {
            check.badArgument("n is " + n, () -> x.ask(Master.packed(1, 0, 0, 0, 1), n));
        }
        check.end();
    }

    private static int[] asked(OutStation x, int... question) {
        int[] answer = new int[x.ask(Master.packed(question), question.length)];
        for (int k = 0; k < answer.length; k++) {
            answer[k] = x.told(k);
        }
        return answer;
    }

    private static void bits(Check check) {
        OutStation x = new OutStation();
        for (int p : new int[] {0, 3, 4, 7}) {
            x.change(0, p, 1);
        }
        check.due("all", asked(x, 1, 0, 0, 0, 8), 1, 1, 0x99);
        check.due("one that is 1", asked(x, 1, 0, 3, 0, 1), 1, 1, 1);
        check.due("one that is 0", asked(x, 1, 0, 2, 0, 1), 1, 1, 0);
        check.due("some in the middle", asked(x, 1, 0, 2, 0, 3), 1, 1, 6);
        check.due("the last one", asked(x, 1, 0, 7, 0, 1), 1, 1, 1);
        check.due("what stands above the question", x.ask(0xABCDEF0000000000L | Master.packed(1, 0, 0, 0, 8), 5), 3);
        check.due("nothing is sent", x.sent(-1), 0);
        check.due("events stay", x.events(0), 4);
    }

    private static void words(Check check) {
        OutStation x = new OutStation();
        x.change(1, 1, 0x12345678);
        x.change(1, 2, -2);
        check.due("a higher half", asked(x, 4, 0, 2, 0, 1), 4, 2, 0x12, 0x34);
        check.due("a lower half", asked(x, 4, 0, 3, 0, 1), 4, 2, 0x56, 0x78);
        check.due("halves of two", asked(x, 4, 0, 3, 0, 2), 4, 4, 0x56, 0x78, 255, 255);
        check.due("four", asked(x, 4, 0, 2, 0, 4), 4, 8, 0x12, 0x34, 0x56, 0x78, 255, 255, 255, 254);
        check.due("the last ones", asked(x, 4, 0, 12, 0, 4), 4, 8, 0, 0, 0, 0, 0, 0, 0, 0);
    }

    private static void wrongNumbers(Check check) {
        OutStation x = new OutStation();
        check.due("no bits", asked(x, 1, 0, 0, 0, 0), 129, 3);
        check.due("nine bits", asked(x, 1, 0, 0, 0, 9), 129, 3);
        check.due("257 bits", asked(x, 1, 0, 0, 1, 1), 129, 3);
        check.due("no words", asked(x, 4, 0, 0, 0, 0), 132, 3);
        check.due("five words", asked(x, 4, 0, 0, 0, 5), 132, 3);
        check.due("65535 words", asked(x, 4, 0, 0, 255, 255), 132, 3);
        check.due("neither number nor place is right", asked(x, 1, 0, 200, 0, 9), 129, 3);
    }

    private static void notThere(Check check) {
        OutStation x = new OutStation();
        check.due("bit 8", asked(x, 1, 0, 8, 0, 1), 129, 2);
        check.due("bits 1 to 8", asked(x, 1, 0, 1, 0, 8), 129, 2);
        check.due("bit 256", asked(x, 1, 1, 0, 0, 1), 129, 2);
        check.due("bit 65535", asked(x, 1, 255, 255, 0, 1), 129, 2);
        check.due("word 16", asked(x, 4, 0, 16, 0, 1), 132, 2);
        check.due("words 13 to 16", asked(x, 4, 0, 13, 0, 4), 132, 2);
        check.due("word 65535", asked(x, 4, 255, 255, 0, 4), 132, 2);
    }

    private static void otherFirstBytes(Check check) {
        OutStation x = new OutStation();
        for (int f = 0; f < 256; f++) {
            if (f != 1 && f != 4) {
                check.due("first byte " + f, asked(x, f, 0, 0, 0, 1), f % 128 + 128, 1);
            }
        }
        check.due("alone", asked(x, 5), 133, 1);
    }

    private static void otherLengths(Check check) {
        OutStation x = new OutStation();
        check.due("1 alone", asked(x, 1), 129, 3);
        check.due("4 alone", asked(x, 4), 132, 3);
        check.due("four bytes", asked(x, 1, 0, 0, 1), 129, 3);
        check.due("six bytes", asked(x, 1, 0, 0, 0, 1, 1), 129, 3);
        check.due("eight bytes", asked(x, 4, 0, 0, 0, 1, 0, 0, 1), 132, 3);
    }
}
