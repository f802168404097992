import java.util.Arrays;

/** Promise 5: the answer's head, its signs, its parts and their frames. */
public final class Promise05AnswerTest {
    public static void main(String[] args) {
        Check.run(Promise05AnswerTest.class);
    }

    @Holds("THE ANSWER is a fragment: 192 + s, 32 more when there are events in it;")
    static void everyHead(Check check) {
        for (int s = 0; s < 16; s++) {
            Master master = Master.withEvents(1, 1);
            check.due("binary ones in it", master.request(192 + s, 1, 60, 2, 6)[0], 224 + s);
            check.due("analog ones in it", master.request(192 + s, 1, 60, 3, 6)[0], 224 + s);
            check.due("none in it", master.request(192 + s, 1)[0], 192 + s);
            check.due("at most none in it", master.request(192 + s, 1, 60, 2, 7, 0)[0], 192 + s);
            check.due("an unknown function", master.request(192 + s, 7)[0], 192 + s);
        }
        check.due("no room for them", Master.withEvents(6, 6).read(60, 1, 6, 60, 2, 6, 60, 3, 6)[0], 192);
    }

    @Holds("129; two bytes of SIGNS; the data.")
    static void theOrderOfIt(Check check) {
        Master master = Master.withEvents(7, 1);
        check.due("a READ", master.request(195, 1, 1, 2, 0, 7, 7), 195, 129, 134, 8, 1, 2, 0, 7, 7, 1);
        check.due("without data it has four bytes", master.request(195, 1), 195, 129, 134, 8);
    }

    @Holds("First signs: 2 there are binary events, 4 analog ones (in rows, whether they are in it or not), 128 restart.")
    static void firstSigns(Check check) {
        for (int i = 0; i < 8; i++) {
            Master master = Master.withEvents(i & 1, i >> 1 & 1);
            if (i >= 4) {
                master.request(192, 2, 80, 1, 0, 7, 7, 0);
            }
            int due = (i & 1) * 2 + (i >> 1 & 1) * 4 + (i >= 4 ? 0 : 128);
            check.due("not in it", master.read()[2], due);
            check.due("in it", master.read(60, 2, 6, 60, 3, 6)[2], due);
            check.due("with a fault", master.request(192, 7)[2], due);
            check.due("with a command", master.command(0, Master.DIRECT, 0, Master.ON)[2], due);
        }
        Master master = Master.withEvents(2, 0);
        master.read(60, 2, 7, 1);
        master.confirm(0);
        check.due("one is left", master.read(60, 2, 6)[2], 130);
        master.confirm(0);
        check.due("none is left", master.read()[2], 128);
    }

    @Holds("Second: 1 function, 2 object, 4 parameter, 8 overflow.")
    static void secondSigns(Check check) {
        for (int overflow = 0; overflow <= 8; overflow += 8) {
            Master master = Master.withEvents(overflow == 0 ? 6 : 7, 0);
            check.due("alone", master.read()[3], overflow);
            check.due("function", master.request(192, 6)[3], overflow + 1);
            check.due("object", master.read(99, 1, 6)[3], overflow + 2);
            check.due("parameter of a READ", master.read(1, 2, 0, 0, 8)[3], overflow + 4);
            check.due("parameter of a WRITE", master.request(192, 2)[3], overflow + 4);
            check.due("parameter of a SELECT", master.request(192, 3)[3], overflow + 4);
            check.due("none of a right one", master.command(0, Master.DIRECT, 4, 5)[3], overflow);
        }
    }

    @Holds("It goes in parts of 39 bytes (the last one what is left),")
    static void lengthsOfAnswers(Check check) {
        for (int data = 6; data <= 58; data++) {
            Master master = new Master();
            master.bringRequest(Master.join(new int[] {192, 1}, Master.headersFor(data)));
            int[] bytes = master.sentBytes();
            int fragment = 4 + data;
            check.due("third byte for " + fragment, bytes[2], 6 + Math.min(fragment, 39));
            check.due("the first part for " + fragment, bytes[10], fragment <= 39 ? 192 : 64);
            int second = fragment - 39;
            int more = second <= 0 ? 0 : 10 + 1 + second + (1 + second + 15) / 16 * 2;
            int first = Math.min(fragment, 39) + 1;
            check.due("bytes for " + fragment, bytes.length, 10 + first + (first + 15) / 16 * 2 + more);
            if (second > 0) {
                check.due("third byte of the second for " + fragment, bytes[56 + 2], 6 + second);
                check.due("the second part for " + fragment, bytes[56 + 10], 128 + 1);
            }
        }
    }

    @Holds({"It goes in parts of 39 bytes (the last one what is left),",
        "in blocks of 16 (the last one what is left), each with its sum behind it."})
    static void theLongestAnswer(Check check) {
        Master master = new Master();
        master.station.change(1, 7, -2);
        master.bringRequest(192, 1, 60, 1, 6);
        int[] binary = Master.join(new int[] {1, 2, 0, 0, 7}, Master.times(8, 1));
        int[] analog = Master.join(new int[] {30, 1, 0, 0, 7}, Master.times(7, 1, 0, 0, 0, 0), new int[] {1, 254, 255, 255, 255});
        int[] fragment = Master.answerOf(192, 132, 0, Master.join(binary, analog));
        int[] one = Master.join(64, Arrays.copyOfRange(fragment, 0, 39));
        int[] two = Master.join(129, Arrays.copyOfRange(fragment, 39, 62));
        check.due("two frames", master.sentBytes(),
            Master.join(Master.frame(68, 3, 10, one), Master.frame(68, 3, 10, two)));
    }

    @Holds("each a frame with C 68, TO the master that asked, FROM 10;")
    static void theMasterThatAsked(Check check) {
        for (int from : new int[] {0, 1, 10, 255, 256, 0x1234, 32768, 65535}) {
            Master master = new Master(new OutStation(), from);
            master.bringRequest(192, 1);
            check.due("the answer to " + from, master.sentBytes(), Master.join(
                Master.withSum(5, 100, 10, 68, from & 255, from >> 8, 10, 0), Master.withSum(192, 192, 129, 128, 0)));
            master.bringRequest(192, 1, 60, 1, 6);
            int[] bytes = master.sentBytes();
            check.due("both parts to " + from, Arrays.copyOfRange(bytes, 56, 66),
                Master.withSum(5, 100, 29, 68, from & 255, from >> 8, 10, 0));
        }
        OutStation x = new OutStation();
        for (int from : new int[] {7, 65535, 7, 0}) {
            check.due("one after the other, " + from, new Master(x, from).read(), 192, 129, 128, 0);
        }
    }

    @Holds("the parts' numbers go on from answer to answer, modulo 64, from 0.")
    static void thePartsNumbersGoOn(Check check) {
        for (int single = 0; single < 2; single++) {
            Master master = new Master();
            int number = 0;
            for (int i = 0; i < 50; i++) {
                boolean twoParts = i >= single && i % 3 != 1;
                master.bringRequest(twoParts ? new int[] {192, 1, 60, 1, 6} : new int[] {192, 1});
                // The head of the first part, and in two parts that of the second one.
                int first = twoParts ? master.station.sent(94 - 1 - 10) : master.station.sent(17 - 1 - 10);
                check.due("first part of answer " + i, first, (twoParts ? 64 : 192) + number);
                number = (number + 1) % 64;
                if (twoParts) {
                    check.due("second part of answer " + i, master.station.sent(94 - 56 - 1 - 10), 128 + number);
                    number = (number + 1) % 64;
                }
            }
        }
    }
}
