/** Promise 5: parts that make fragments, and fragments that are requests. */
public final class Promise05PartsTest {
    private static final int FIRST = 64;
    private static final int LAST = 128;

    public static void main(String[] args) {
        Check check = new Check();
        partsInTheirOrder(check);
        partsOutOfOrder(check);
        anotherSender(check);
        lengths(check);
        afterARequestThereIsNone(check);
        requestsThatArePassedOver(check);
        check.end();
    }

    private static void partsInTheirOrder(Check check) {
        for (int number = 0; number < 64; number++) {
            Master master = new Master(new OutStation());
            master.bringPart(FIRST + number, 195);
            master.bringPart((number + 1) % 64);
            master.bringPart(LAST + (number + 2) % 64, 1);
            check.due("from number " + number, master.answer(), 195, 129, 128, 0);
        }
        Master master = new Master(new OutStation());
        master.bringPart(FIRST, 195, 1, 1, 2);
        master.bringPart(LAST + 1, 0, 3, 3);
        check.due("a header in two parts", master.answer(), 195, 129, 128, 0, 1, 2, 0, 3, 3, 1);
    }

    private static void partsOutOfOrder(Check check) {
        Master master = new Master(new OutStation());
        master.bringPart(LAST, 192, 1);
        check.silent("none is begun", master.answer());
        for (int number = 0; number < 3; number++) {
            Master zero = new Master(new OutStation(), 0);
            zero.bringPart(LAST + number, 192, 1);
            check.silent("none is begun by 0 either", zero.answer());
        }
        master.bringPart(FIRST + 5, 192);
        master.bringPart(LAST + 5, 1);
        check.silent("the same number", master.answer());
        master.bringPart(LAST + 6, 1);
        check.silent("there is none any more", master.answer());
        master.bringPart(FIRST + 5, 192);
        master.bringPart(LAST + 7, 1);
        check.silent("a number left out", master.answer());
        master.bringPart(FIRST + 5, 192);
        master.bringPart(9);
        master.bringPart(LAST + 6, 1);
        check.silent("a wrong one ends it", master.answer());
        master.bringPart(FIRST + 5, 199, 9);
        master.bringPart(FIRST + 20, 194);
        master.bringPart(LAST + 21, 1);
        check.due("a first one begins anew", master.answer(), 194, 129, 128, 0);
        master.bringPart(FIRST + 5, 199);
        master.bringPart(FIRST + LAST + 6, 194, 1);
        check.due("with a last one too", master.answer(), 194, 129, 128, 0);
        master.bringPart(LAST + 7, 1);
        check.silent("and then there is none", master.answer());
    }

    private static void anotherSender(Check check) {
        OutStation x = new OutStation();
        Master one = new Master(x, 3);
        Master other = new Master(x, 259);
        one.bringPart(FIRST, 192);
        other.bringPart(LAST + 1, 1);
        check.silent("from another one", other.answer());
        one.bringPart(LAST + 1, 1);
        check.silent("it is gone", one.answer());
    }

    private static void lengths(Check check) {
        int[] first = Master.join(new int[] {192, 9}, Master.times(37, 0));
        Master master = new Master(new OutStation());
        master.bringPart(FIRST, first);
        master.bringPart(LAST + 1, Master.times(21, 0));
        check.due("60 bytes", master.answer(), 192, 129, 128, 1);
        master.bringPart(FIRST, first);
        master.bringPart(LAST + 1, Master.times(22, 0));
        check.silent("61 bytes", master.answer());
        master.bringPart(FIRST, first);
        master.bringPart(1, Master.times(22, 0));
        master.bringPart(LAST + 2);
        check.silent("too long ends it", master.answer());
        master.bringPart(FIRST, first);
        master.bringPart(1, Master.times(21, 0));
        master.bringPart(LAST + 2);
        check.due("60 bytes and none", master.answer(), 192, 129, 128, 1);
    }

    private static void afterARequestThereIsNone(Check check) {
        Master master = new Master(new OutStation());
        master.bringPart(FIRST + LAST, 192, 1);
        check.due("a request", master.answer(), 192, 129, 128, 0);
        master.bringPart(LAST + 1, 1, 2, 6);
        check.silent("nothing goes on from it", master.answer());
    }

    private static void requestsThatArePassedOver(Check check) {
        for (int begin = 0; begin < 256; begin++) {
            Master master = new Master(new OutStation());
            int[] answer = master.request(begin, 1);
            if (begin >= 192 && begin <= 207) {
                check.due("begins with " + begin, answer, begin, 129, 128, 0);
            } else {
                check.silent("begins with " + begin, answer);
            }
        }
        Master master = new Master(new OutStation());
        master.bringPart(FIRST + LAST);
        check.silent("no byte", master.answer());
        check.silent("one byte", master.request(192));
        master.request(192, 3, 12, 1, 23, 1, 2, 3);
        check.silent("one byte behind an answer", master.request(192));
        check.silent("another beginning behind an answer", master.request(208, 1));
        check.due("they leave what is selected", master.request(193, 4, 12, 1, 23, 1, 2, 3)[10], 0);
        master.station.change(0, 0, 1);
        master.request(194, 1, 60, 2, 6);
        master.request(191, 1);
        master.request(194, 0);
        check.due("and what can be confirmed", master.station.events(0), 0);
    }
}
