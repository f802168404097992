import java.util.Arrays;

/** Promise 5: READ, its headers, its room and its signs. */
public final class Promise05ReadTest {
    private static final int OBJECT = 2;
    private static final int PARAMETER = 4;

    public static void main(String[] args) {
        Check check = new Check();
        points(check);
        allPoints(check);
        events(check);
        eventsOnceInAnAnswer(check);
        roomForPoints(check);
        roomForEvents(check);
        otherObjects(check);
        wrongParameters(check);
        whatFollowsAWrongHeader(check);
        otherFunctions(check);
        check.end();
    }

    private static int[] read(OutStation x, int... headers) {
        return new Master(x).request(Master.join(new int[] {192, 1}, headers));
    }

    private static int[] answer(int head, int first, int second, int... data) {
        return Master.join(new int[] {head, 129, first, second}, data);
    }

    private static void points(Check check) {
        OutStation x = new OutStation();
        check.due("no header", read(x), answer(192, 128, 0));
        x.change(0, 2, 1);
        x.change(1, 6, 0x01020304);
        x.change(1, 7, -5);
        check.due("all binary ones", read(x, 1, 2, 6), answer(192, 134, 0, 1, 2, 0, 0, 7, 1, 1, 129, 1, 1, 1, 1, 1));
        check.due("some binary ones", read(x, 1, 2, 0, 2, 3), answer(192, 134, 0, 1, 2, 0, 2, 3, 129, 1));
        check.due("the last binary one", read(x, 1, 2, 0, 7, 7), answer(192, 134, 0, 1, 2, 0, 7, 7, 1));
        check.due("some analog ones", read(x, 30, 1, 0, 6, 7),
            answer(192, 134, 0, 30, 1, 0, 6, 7, 1, 4, 3, 2, 1, 1, 251, 255, 255, 255));
        check.due("both in their order", read(x, 30, 1, 0, 0, 0, 1, 2, 0, 2, 2),
            answer(192, 134, 0, 30, 1, 0, 0, 0, 1, 0, 0, 0, 0, 1, 2, 0, 2, 2, 129));
        check.due("the same twice", read(x, 1, 2, 0, 2, 2, 1, 2, 0, 2, 2),
            answer(192, 134, 0, 1, 2, 0, 2, 2, 129, 1, 2, 0, 2, 2, 129));
        check.due("all analog ones have 45 bytes", read(x, 30, 1, 6).length, 49);
    }

    private static void allPoints(Check check) {
        OutStation x = new OutStation();
        x.change(0, 7, 1);
        x.change(1, 0, 7);
        int[] binary = {1, 2, 0, 0, 7, 1, 1, 1, 1, 1, 1, 1, 129};
        int[] analog = Master.join(new int[] {30, 1, 0, 0, 7, 1, 7, 0, 0, 0}, Master.times(7, 1, 0, 0, 0, 0));
        check.due("60 1 fills the answer", read(x, 60, 1, 6), answer(192, 134, 0, Master.join(binary, analog)));
        check.due("binary and analog ones do so too", read(x, 1, 2, 6, 30, 1, 6),
            answer(192, 134, 0, Master.join(binary, analog)));
        check.due("60 1 behind something gives nothing of it", read(x, 1, 2, 0, 7, 7, 60, 1, 6),
            answer(192, 134, PARAMETER, 1, 2, 0, 7, 7, 129));
    }

    private static void events(Check check) {
        OutStation x = new OutStation();
        check.due("no binary ones", read(x, 60, 2, 6), answer(192, 128, 0));
        check.due("no analog ones", read(x, 60, 3, 7, 3), answer(192, 128, 0));
        x.change(0, 5, 1);
        x.change(0, 5, 0);
        x.change(0, 1, 1);
        check.due("all", read(x, 60, 2, 6), answer(224, 130, 0, 2, 1, 23, 3, 5, 129, 5, 1, 1, 129));
        check.due("they are there still", read(x, 60, 2, 7, 3), answer(224, 130, 0, 2, 1, 23, 3, 5, 129, 5, 1, 1, 129));
        check.due("at most two", read(x, 60, 2, 7, 2), answer(224, 130, 0, 2, 1, 23, 2, 5, 129, 5, 1));
        check.due("at most 255", read(x, 60, 2, 7, 255), answer(224, 130, 0, 2, 1, 23, 3, 5, 129, 5, 1, 1, 129));
        check.due("at most none", read(x, 60, 2, 7, 0), answer(192, 130, 0));
        check.due("none of the other kind", read(x, 60, 3, 6), answer(192, 130, 0));
        x.change(1, 4, -2);
        check.due("both kinds", read(x, 60, 3, 6, 60, 2, 7, 1),
            answer(224, 134, 0, 32, 1, 23, 1, 4, 1, 254, 255, 255, 255, 2, 1, 23, 1, 5, 129));
        check.due("the number in the head", new Master(x).request(207, 1, 60, 2, 7, 1),
            answer(239, 134, 0, 2, 1, 23, 1, 5, 129));
    }

    private static void eventsOnceInAnAnswer(Check check) {
        OutStation x = new OutStation();
        for (int p = 0; p < 4; p++) {
            x.change(0, p, 1);
        }
        check.due("one, two, and what is left", read(x, 60, 2, 7, 1, 60, 2, 7, 2, 60, 2, 6, 60, 2, 6),
            answer(224, 130, 0, 2, 1, 23, 1, 0, 129, 2, 1, 23, 2, 1, 129, 2, 129, 2, 1, 23, 1, 3, 129));
        check.due("the next answer begins with the first one", read(x, 60, 2, 7, 1),
            answer(224, 130, 0, 2, 1, 23, 1, 0, 129));
    }

    private static void roomForPoints(Check check) {
        OutStation x = new OutStation();
        int[] nine = Master.times(9, 1, 2, 0, 0, 0);
        int[] given = Master.times(9, 1, 2, 0, 0, 0, 1);
        check.due("54 bytes, and six more have no room", read(x, Master.join(nine, new int[] {1, 2, 0, 3, 3})),
            answer(192, 128, PARAMETER, given));
        int[] eight = Master.times(8, 1, 2, 0, 0, 0);
        int[] givenEight = Master.times(8, 1, 2, 0, 0, 0, 1);
        check.due("48 bytes and ten more have just room", read(x, Master.join(eight, new int[] {30, 1, 0, 1, 1})),
            answer(192, 128, 0, Master.join(givenEight, new int[] {30, 1, 0, 1, 1, 1, 0, 0, 0, 0})));
        check.due("48 bytes and 11 more have none", read(x, Master.join(eight, new int[] {1, 2, 0, 0, 5})),
            answer(192, 128, PARAMETER, givenEight));
    }

    private static void roomForEvents(Check check) {
        OutStation x = new OutStation();
        for (int i = 1; i <= 6; i++) {
            x.change(1, i, i);
            x.change(0, i, 1);
        }
        int[] all = read(x, 60, 2, 6, 60, 3, 6);
        check.due("all twelve have room", all.length, 4 + 16 + 40);
        int[] some = read(x, 1, 2, 6, 60, 3, 6, 60, 2, 6);
        check.due("13 bytes leave room for all analog ones", some[4 + 13 + 3], 6);
        check.due("and for nothing behind them", some.length, 4 + 13 + 40);
        int[] fewer = read(x, 30, 1, 0, 0, 2, 60, 3, 6, 60, 2, 6);
        check.due("20 bytes leave room for five", fewer[4 + 20 + 3], 5);
        check.due("and 4 bytes that hold none", fewer.length, 4 + 20 + 34);
        int[] one = read(x, Master.join(Master.times(8, 1, 2, 0, 0, 0), new int[] {60, 3, 6}));
        check.due("ten bytes hold one analog event", one[4 + 48 + 3], 1);
        int[] six = read(x, 30, 1, 0, 0, 6, 1, 2, 0, 0, 6, 60, 2, 6);
        check.due("six bytes hold one binary event", six[4 + 52 + 3], 1);
        check.due("and are full then", six.length, 62);
        check.due("five bytes hold none", read(x, 30, 1, 0, 0, 6, 1, 2, 6, 60, 2, 6).length, 4 + 53);
        int[] none = read(x, Master.join(Master.times(8, 1, 2, 0, 0, 0), new int[] {1, 2, 0, 0, 0, 60, 3, 6, 60, 2, 6}));
        check.due("four bytes hold nothing", none.length, 4 + 54);
        check.due("then it asks for nothing", none[0], 192);
        check.due("and that is no fault", none[3], 0);
    }

    private static void otherObjects(Check check) {
        int[][] wrong = {
            {0, 0, 6}, {1, 1, 6}, {1, 3, 6}, {2, 1, 6}, {30, 2, 6}, {30, 0, 6}, {32, 1, 6}, {60, 0, 6}, {60, 4, 6},
            {5, 5, 6}, {1, 2, 7, 1}, {1, 2, 23, 0}, {1, 2, 1, 0, 1}, {30, 1, 7, 1}, {30, 1, 8}, {60, 1, 0, 0, 7},
            {60, 1, 7, 1}, {60, 1, 23, 0}, {60, 2, 0, 0, 1}, {60, 3, 0, 0, 1}, {60, 2, 23, 0}, {60, 3, 255},
            {99, 1, 0}, {99, 1, 7}, {60, 2, 0}, {1, 2, 7}};
        for (int[] header : wrong) {
            OutStation x = new OutStation();
            x.change(0, 0, 1);
            x.change(1, 0, 1);
            check.due("header " + Arrays.toString(header), read(x, header), answer(192, 134, OBJECT));
        }
    }

    private static void wrongParameters(Check check) {
        int[][] wrong = {
            {1, 2, 0, 3, 2}, {1, 2, 0, 0, 8}, {1, 2, 0, 8, 8}, {1, 2, 0, 255, 255}, {30, 1, 0, 7, 6}, {30, 1, 0, 2, 9},
            {1}, {60}, {99}, {1, 2}, {60, 1}, {99, 99}, {1, 2, 0}, {1, 2, 0, 0}, {30, 1, 0, 0}, {60, 2, 7}, {60, 3, 7}};
        for (int[] header : wrong) {
            OutStation x = new OutStation();
            x.change(0, 0, 1);
            check.due("header " + Arrays.toString(header), read(x, header), answer(192, 130, PARAMETER));
        }
    }

    private static void whatFollowsAWrongHeader(Check check) {
        OutStation x = new OutStation();
        x.change(0, 0, 1);
        check.due("what stands before it is given", read(x, 1, 2, 0, 0, 0, 5, 5, 6, 1, 2, 0, 1, 1),
            answer(192, 130, OBJECT, 1, 2, 0, 0, 0, 129));
        check.due("events before it too", read(x, 60, 2, 6, 1, 2, 0, 9, 9, 5, 5, 6),
            answer(224, 130, PARAMETER, 2, 1, 23, 1, 0, 129));
        check.due("events behind it are not", read(x, 1, 2, 7, 60, 2, 6), answer(192, 130, OBJECT));
    }

    private static void otherFunctions(Check check) {
        for (int function = 6; function < 256; function++) {
            check.due("function " + function, new Master(new OutStation()).request(193, function, 1, 2, 6),
                answer(193, 128, 1));
        }
    }
}
