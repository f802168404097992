/** Promise 5: parts that make fragments, and fragments that are requests. */
public final class Promise05PartsTest {
    private static final int FIRST = Master.FIRST;
    private static final int LAST = Master.LAST;
    private static final int[] ANSWER = {192, 129, 128, 0};
    private static final int[] FULL_FIRST = Master.join(new int[] {192, 9}, Master.times(37, 0));

    public static void main(String[] args) {
        Check.run(Promise05PartsTest.class);
    }

    @Holds("PARTS: the first byte of a payload: bit 7 LAST, bit 6 FIRST, bits 0 to 5 a number.")
    static void everyFirstByte(Check check) {
        for (int head = 0; head < 256; head++) {
            Master master = new Master();
            master.bringPart(head, 192, 1);
            if (head >= FIRST + LAST) {
                check.due("part " + head + " alone", master.answer(), ANSWER);
            } else {
                check.silent("part " + head + " alone", master.answer());
            }
        }
    }

    @Holds("The others go into the FRAGMENT:")
    static void aHeaderInPieces(Check check) {
        Master master = new Master();
        master.bringPart(FIRST, 195, 1, 1, 2);
        master.bringPart(1);
        master.bringPart(2, 0);
        master.bringPart(LAST + 3, 3, 3);
        check.due("a READ", master.answer(), 195, 129, 128, 0, 1, 2, 0, 3, 3, 1);
    }

    @Holds("a first part begins it anew;")
    static void aFirstPartBeginsAnew(Check check) {
        Master master = new Master();
        master.bringPart(FIRST + 5, 199, 9);
        master.bringPart(FIRST + 6, 192);
        master.bringPart(LAST + 7, 1);
        check.due("behind another first one", master.answer(), ANSWER);
        master.bringPart(FIRST + 5, 199);
        master.bringPart(FIRST + LAST + 6, 192, 1);
        check.due("a first and last one", master.answer(), ANSWER);
        master.bringPart(FIRST, FULL_FIRST);
        master.bringPart(FIRST + 1, FULL_FIRST);
        master.bringPart(LAST + 2, Master.times(21, 0));
        check.due("it is as long as if none had been", master.answer(), 192, 129, 128, Master.FUNCTION);
        Master other = new Master(master.station, 4);
        master.bringPart(FIRST, 199);
        other.bringPart(FIRST + 1, 192);
        other.bringPart(LAST + 2, 1);
        check.due("one from another master", other.answer(), ANSWER);
    }

    @Holds("another one goes on, when one is begun,")
    static void noneIsBegun(Check check) {
        Master master = new Master();
        master.bringPart(LAST, 192, 1);
        check.silent("before any part", master.answer());
        master.bringPart(63, 192);
        master.bringPart(LAST, 1);
        check.silent("a part that is not the first does not begin it", master.answer());
    }

    @Holds("from the same FROM,")
    static void anotherSender(Check check) {
        for (int from : new int[] {0, 2, 259, 65283}) {
            OutStation x = new OutStation();
            Master one = new Master(x, 3);
            Master other = new Master(x, from);
            one.bringPart(FIRST, 192);
            other.bringPart(LAST + 1, 1);
            check.silent("a part from " + from, other.answer());
            one.bringPart(LAST + 1, 1);
            check.silent("it is gone", one.answer());
        }
        for (int from : new int[] {0, 255, 256, 65535}) {
            Master master = new Master(new OutStation(), from);
            master.bringPart(FIRST, 192);
            master.bringPart(LAST + 1, 1);
            check.due("both from " + from, master.answer(), ANSWER);
        }
    }

    @Holds("its number is that of the part before plus 1 modulo 64,")
    static void numbers(Check check) {
        for (int number = 0; number < 64; number++) {
            for (int next = 0; next < 64; next++) {
                Master master = new Master();
                master.bringPart(FIRST + number, 192);
                master.bringPart(LAST + next, 1);
                if (next == (number + 1) % 64) {
                    check.due(next + " behind " + number, master.answer(), ANSWER);
                } else {
                    check.silent(next + " behind " + number, master.answer());
                }
            }
        }
    }

    @Holds("its number is that of the part before plus 1 modulo 64,")
    static void manyPartsRoundTheEnd(Check check) {
        Master master = new Master();
        master.bringPart(FIRST + 60, 192);
        for (int number = 61; number < 60 + 70; number++) {
            master.bringPart(number % 64);
        }
        master.bringPart(LAST + (60 + 70) % 64, 1);
        check.due("72 parts", master.answer(), ANSWER);
        master.bringPart(FIRST + 62, 192);
        master.bringPart(63);
        master.bringPart(LAST + 63, 1);
        check.silent("the part before is the second one", master.answer());
    }

    @Holds("and it is not longer than 60 then;")
    static void lengths(Check check) {
        int[] full = {192, 129, 128, Master.FUNCTION};
        Master master = new Master();
        master.bringPart(FIRST, FULL_FIRST);
        master.bringPart(LAST + 1, Master.times(21, 0));
        check.due("60 bytes", master.answer(), full);
        master.bringPart(FIRST, FULL_FIRST);
        master.bringPart(LAST + 1, Master.times(22, 0));
        check.silent("61 bytes", master.answer());
        master.bringPart(FIRST, FULL_FIRST);
        master.bringPart(LAST + 1, Master.times(39, 0));
        check.silent("78 bytes", master.answer());
        master.bringPart(FIRST, FULL_FIRST);
        master.bringPart(1, Master.times(21, 0));
        master.bringPart(2);
        master.bringPart(LAST + 3);
        check.due("60 bytes and empty parts", master.answer(), full);
        master.bringPart(FIRST, FULL_FIRST);
        master.bringPart(1, Master.times(21, 0));
        master.bringPart(LAST + 2, 0);
        check.silent("60 bytes and one more", master.answer());
    }

    @Holds("otherwise there is none any more.")
    static void aWrongPartEndsIt(Check check) {
        Master master = new Master();
        master.bringPart(FIRST + 5, 192);
        master.bringPart(5, 1);
        master.bringPart(LAST + 6, 1);
        check.silent("behind the same number", master.answer());
        master.bringPart(FIRST + 5, 192);
        master.bringPart(LAST + 7, 1);
        master.bringPart(LAST + 6, 1);
        check.silent("behind a number left out", master.answer());
        master.bringPart(FIRST + 5, 192);
        master.bringPart(9);
        master.bringPart(LAST + 10, 1);
        check.silent("behind one that would go on from the wrong one", master.answer());
        master.bringPart(FIRST, FULL_FIRST);
        master.bringPart(1, Master.times(22, 0));
        master.bringPart(LAST + 2);
        check.silent("behind one that was too long", master.answer());
        master.bringPart(FIRST, FULL_FIRST);
        master.bringPart(1, Master.times(22, 0));
        master.bringPart(LAST + 1);
        check.silent("and that is not taken back", master.answer());
        master.bringPart(FIRST + LAST, 192, 1);
        check.due("a first one begins again", master.answer(), ANSWER);
    }

    @Holds("With a last part it is a REQUEST (and there is none any more).")
    static void behindARequest(Check check) {
        Master master = new Master();
        master.bringPart(FIRST, 192);
        check.silent("not with a first part", master.answer());
        master.bringPart(1, 1);
        check.silent("nor with another one", master.answer());
        master.bringPart(LAST + 2);
        check.due("with the last one", master.answer(), ANSWER);
        master.bringPart(LAST + 3, 1, 2, 6);
        check.silent("nothing goes on from it", master.answer());
        master.bringPart(FIRST + LAST, 192, 1);
        check.due("with a first and last one", master.answer(), ANSWER);
        master.bringPart(LAST + 1);
        check.silent("nothing goes on from that either", master.answer());
        master.bringPart(FIRST + LAST, 1);
        master.bringPart(LAST + 1, 1);
        check.silent("nor from one that was passed over", master.answer());
    }

    @Holds("A REQUEST: a byte 192 + s (s 0 to 15, its NUMBER), a FUNCTION, and HEADERS:")
    static void everyNumber(Check check) {
        for (int s = 0; s < 16; s++) {
            check.due("number " + s, new Master().request(192 + s, 1, 1, 2, 0, 0, 0),
                192 + s, 129, 128, 0, 1, 2, 0, 0, 0, 1);
        }
    }

    @Holds("(One that is shorter than two bytes, or begins otherwise, is passed over.)")
    static void otherBeginnings(Check check) {
        for (int begin = 0; begin < 256; begin++) {
            if (begin < 192 || begin > 207) {
                check.silent("begins with " + begin, new Master().request(begin, 1));
            }
        }
    }

    @Holds("(One that is shorter than two bytes, or begins otherwise, is passed over.)")
    static void shortOnes(Check check) {
        Master master = new Master();
        master.request(192, 9);
        master.bringPart(FIRST + LAST);
        check.silent("no byte, behind a longer one", master.answer());
        check.silent("one byte, behind a longer one", master.request(192));
        check.due("two bytes", master.request(192, 1), ANSWER);
    }

    @Holds("or begins otherwise, is passed over.)")
    static void theyLeaveAllAsItWas(Check check) {
        Master master = new Master();
        master.command(0, Master.SELECT, 2, Master.ON);
        master.request(192);
        master.request(208, 1);
        check.due("what is selected", master.statusOf(1, Master.OPERATE, 2, Master.ON), 0);
        master.station.change(0, 0, 1);
        master.read(60, 2, 6);
        master.request(191, 1);
        master.request(192);
        check.due("no event goes", master.station.events(0), 1);
        master.confirm(0);
        check.due("what can be confirmed", master.station.events(0), 0);
        check.silent("no restart is written", master.request(208, 2, 80, 1, 0, 7, 7, 0));
        check.due("it is on", master.read(), ANSWER);
    }
}
