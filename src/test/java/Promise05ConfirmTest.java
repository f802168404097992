/** Promise 5: CONFIRM, and the events that stay until then. */
public final class Promise05ConfirmTest {
    public static void main(String[] args) {
        Check.run(Promise05ConfirmTest.class);
    }

    private static void dueEvents(Check check, String what, Master master, int binary, int analog) {
        check.due(what + ", binary events", master.station.events(0), binary);
        check.due(what + ", analog events", master.station.events(1), analog);
    }

    @Holds("0 CONFIRM (headers are of no matter):")
    static void headersAreOfNoMatter(Check check) {
        int[][] all = {{}, {99}, {1, 2}, {60, 2, 6}, {1, 2, 0, 9, 9}, Master.times(58, 7)};
        for (int[] headers : all) {
            Master master = Master.withEvents(1, 0);
            master.read(60, 2, 6);
            check.silent("a confirm", master.request(Master.join(new int[] {192, 0}, headers)));
            dueEvents(check, "it is one", master, 0, 0);
        }
    }

    @Holds("the events in it go")
    static void theEventsOfTheAnswerGo(Check check) {
        for (int n = 1; n <= 6; n++) {
            Master master = Master.withEvents(6, 6);
            master.read(60, 2, 7, n, 60, 3, 7, 7 - n);
            master.confirm(0);
            dueEvents(check, n + " and " + (7 - n), master, 6 - n, n - 1);
        }
        Master master = Master.withEvents(3, 4);
        master.read(60, 2, 7, 2, 60, 3, 7, 1, 60, 3, 7, 1);
        master.station.change(0, 7, 1);
        master.confirm(0);
        check.due("the later ones stay, in their order", master.read(60, 2, 6, 60, 3, 6), Master.answerOf(224, 134, 0,
            2, 1, 23, 2, 2, 129, 7, 129, 32, 1, 23, 2, 2, 1, 12, 0, 0, 0, 3, 1, 13, 0, 0, 0));
        master.confirm(0);
        check.due("none are left, and no sign of them", master.read(), Master.answerOf(192, 128, 0));
    }

    @Holds("(those that are still there),")
    static void eventsThatAreGoneAlready(Check check) {
        for (int gone = 0; gone <= 6; gone++) {
            Master master = Master.withEvents(6, 6);
            master.read(60, 2, 7, 3, 60, 3, 7, 3);
            for (int i = 0; i < gone; i++) {
                master.station.change(0, 7, 1 - i % 2);
            }
            master.confirm(0);
            dueEvents(check, gone + " gone of three", master, 6 - Math.max(3 - gone, 0), 3);
        }
        Master master = Master.withEvents(6, 0);
        master.read(60, 2, 7, 3);
        master.station.change(0, 6, 1);
        master.station.change(0, 7, 1);
        master.confirm(0);
        check.due("the ones that were not in it stay", master.read(60, 2, 6),
            Master.answerOf(224, 130, 0, 2, 1, 23, 5, 3, 129, 4, 129, 5, 129, 6, 129, 7, 129));
    }

    @Holds("and overflow is off.")
    static void overflowGoesOff(Check check) {
        Master master = Master.withEvents(7, 1);
        check.due("it is on", master.read(60, 3, 6)[3], Master.OVERFLOW);
        check.due("it stays on in the next one", master.read(60, 3, 6)[3], Master.OVERFLOW);
        master.confirm(0);
        check.due("off, though the other kind is full", master.secondSigns(), 0);
        master.station.change(0, 7, 1);
        check.due("and on again", master.secondSigns(), Master.OVERFLOW);

        Master allGone = Master.withEvents(6, 0);
        allGone.read(60, 2, 7, 1);
        allGone.station.change(0, 7, 1);
        check.due("on since the answer", allGone.station.events(0), 6);
        allGone.confirm(0);
        dueEvents(check, "none was there still", allGone, 6, 0);
        check.due("off all the same", allGone.secondSigns(), 0);
    }

    @Holds("No answer.")
    static void noAnswer(Check check) {
        Master master = Master.withEvents(1, 0);
        check.silent("before any answer", master.request(192, 0));
        master.read(60, 2, 6);
        int sent = master.station.sent(-1);
        check.silent("a right one", master.request(192, 0));
        check.silent("one that comes again", master.request(192, 0));
        check.silent("one of another number", master.request(200, 0));
        check.due("nothing is sent", master.station.sent(-1), sent);
        master.bringRequest(192, 1);
        check.due("the next part has the next number", master.station.sent(6), 192 + 1);
    }

    @Holds("when the last answer asked to be confirmed and its number was s:")
    static void onlyItsNumber(Check check) {
        for (int s = 0; s < 16; s++) {
            Master master = Master.withEvents(2, 0);
            master.request(192 + s, 1, 60, 2, 6);
            for (int other = 0; other < 16; other++) {
                if (other != s) {
                    master.confirm(other);
                }
            }
            dueEvents(check, "other numbers than " + s, master, 2, 0);
            master.confirm(s);
            dueEvents(check, "number " + s + " behind them", master, 0, 0);
        }
    }

    @Holds("when the last answer asked to be confirmed")
    static void notWithoutEventsInIt(Check check) {
        int[][] others = {{1}, {1, 1, 2, 6}, {1, 60, 2, 7, 0}, {1, 60, 1, 6, 60, 2, 6}, {1, 5, 5, 6, 60, 2, 6},
            {2, 80, 1, 0, 7, 7, 0}, {9}};
        for (int[] other : others) {
            Master master = Master.withEvents(7, 0);
            master.request(Master.join(192, other));
            master.confirm(0);
            dueEvents(check, "function " + other[0], master, 6, 0);
            check.due("overflow stays", master.secondSigns(), Master.OVERFLOW);
        }
    }

    @Holds("It can be confirmed once,")
    static void onlyOnce(Check check) {
        Master master = Master.withEvents(3, 3);
        master.read(60, 2, 7, 1, 60, 3, 7, 1);
        master.confirm(0);
        master.confirm(0);
        dueEvents(check, "a second confirm", master, 2, 2);
        Master full = Master.withEvents(6, 0);
        full.read(60, 2, 7, 1);
        full.confirm(0);
        full.station.change(0, 6, 1);
        full.station.change(0, 7, 1);
        full.confirm(0);
        check.due("a second one leaves the overflow", full.secondSigns(), Master.OVERFLOW);
    }

    @Holds("and not when another request (other than 0) came.")
    static void notBehindAnotherRequest(Check check) {
        int[][] others = {{1}, {1, 1, 2, 6}, {1, 60, 2, 7, 0}, {2, 80, 1, 0, 7, 7, 0}, {2}, {3, 12, 1, 23, 1, 0, 3}, {3},
            {4}, {4, 12, 1, 23, 1, 0, 3}, {5}, {5, 12, 1, 23, 1, 0, 3}, {6}, {129}, {255}};
        for (int[] other : others) {
            for (int number = 3; number <= 4; number++) {
                Master master = Master.withEvents(2, 2);
                master.request(195, 1, 60, 2, 6, 60, 3, 6);
                master.request(Master.join(192 + number, other));
                master.confirm(3);
                dueEvents(check, "behind function " + other[0], master, 2, 2);
            }
        }
    }

    @Holds("and not when another request (other than 0) came.")
    static void theLaterAnswerCounts(Check check) {
        Master master = Master.withEvents(3, 0);
        master.request(195, 1, 60, 2, 6);
        master.request(196, 1, 60, 2, 7, 1);
        master.confirm(3);
        dueEvents(check, "the earlier number", master, 3, 0);
        master.confirm(4);
        dueEvents(check, "the later one", master, 2, 0);
        master.request(197, 1, 60, 2, 6);
        master.bringPart(Master.FIRST, 197, 1);
        master.confirm(5);
        dueEvents(check, "a part that is no request yet is none", master, 0, 0);
    }
}
