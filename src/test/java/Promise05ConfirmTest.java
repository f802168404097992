/** Promise 5: CONFIRM, and the events that stay until then. */
public final class Promise05ConfirmTest {
    public static void main(String[] args) {
        Check check = new Check();
        theEventsOfTheAnswerGo(check);
        onlyOnce(check);
        onlyItsNumber(check);
        notBehindAnotherRequest(check);
        notWithoutEvents(check);
        eventsThatAreGoneAlready(check);
        overflowGoesOff(check);
        headersAreOfNoMatter(check);
        check.end();
    }

    private static Master withEvents(int binary, int analog) {
        OutStation x = new OutStation();
        for (int i = 0; i < binary; i++) {
            x.change(0, i, 1);
        }
        for (int i = 0; i < analog; i++) {
            x.change(1, i, 10 + i);
        }
        return new Master(x);
    }

    private static void theEventsOfTheAnswerGo(Check check) {
        Master master = withEvents(3, 4);
        master.request(197, 1, 60, 2, 7, 2, 60, 3, 7, 1);
        master.station.change(0, 7, 1);
        check.silent("a confirm", master.request(197, 0));
        check.due("binary ones left", master.station.events(0), 2);
        check.due("analog ones left", master.station.events(1), 3);
        check.due("they are the later ones", master.request(192, 1, 60, 2, 6, 60, 3, 7, 1),
            224, 129, 134, 0, 2, 1, 23, 2, 2, 129, 7, 129, 32, 1, 23, 1, 1, 1, 11, 0, 0, 0);
        master.request(192, 0);
        master.request(193, 1, 60, 3, 6);
        master.request(193, 0);
        check.due("none are left, and no sign of them", master.request(192, 1), 192, 129, 128, 0);
    }

    private static void onlyOnce(Check check) {
        Master master = withEvents(3, 0);
        master.request(192, 1, 60, 2, 7, 1);
        master.request(192, 0);
        check.silent("a second confirm", master.request(192, 0));
        check.due("one went", master.station.events(0), 2);
        Master full = withEvents(6, 0);
        full.request(192, 1, 60, 2, 7, 1);
        full.request(192, 0);
        full.station.change(0, 6, 1);
        full.station.change(0, 7, 1);
        full.request(192, 0);
        check.due("a second one leaves the overflow", full.request(193, 1), 193, 129, 130, 8);
    }

    private static void onlyItsNumber(Check check) {
        Master master = withEvents(2, 0);
        master.request(195, 1, 60, 2, 6);
        check.silent("a confirm of another number", master.request(196, 0));
        master.request(194, 0);
        check.due("takes nothing", master.station.events(0), 2);
        master.request(195, 0);
        check.due("the right one may follow", master.station.events(0), 0);
    }

    private static void notBehindAnotherRequest(Check check) {
        int[][] others = {{1}, {2, 80, 1, 0, 7, 7, 0}, {3, 12, 1, 23, 1, 0, 3}, {4}, {5}, {77}, {1, 1, 2, 6}};
        for (int[] other : others) {
            Master master = withEvents(2, 2);
            master.request(195, 1, 60, 2, 6, 60, 3, 6);
            master.request(Master.join(new int[] {195}, other));
            check.silent("a confirm behind function " + other[0], master.request(195, 0));
            check.due("takes nothing", master.station.events(0) + master.station.events(1), 4);
        }
        Master master = withEvents(3, 0);
        master.request(195, 1, 60, 2, 6);
        master.request(196, 1, 60, 2, 7, 1);
        master.request(195, 0);
        check.due("nor the number of an earlier one", master.station.events(0), 3);
        master.request(196, 0);
        check.due("but the later answer's", master.station.events(0), 2);
    }

    private static void notWithoutEvents(Check check) {
        Master master = withEvents(6, 0);
        master.station.change(0, 6, 1);
        master.request(192, 1, 1, 2, 6);
        master.request(192, 0);
        check.due("nothing to confirm", master.station.events(0), 6);
        check.due("and overflow stays", master.request(193, 1), 193, 129, 130, 8);
        master.request(193, 0);
        check.due("before and behind", master.request(193, 1), 193, 129, 130, 8);
        Master first = withEvents(6, 0);
        first.station.change(0, 7, 1);
        check.silent("a confirm before any answer", first.request(192, 0));
        check.due("leaves all as it was", first.request(193, 1), 193, 129, 130, 8);
    }

    private static void eventsThatAreGoneAlready(Check check) {
        Master master = withEvents(6, 0);
        master.request(192, 1, 60, 2, 7, 3);
        master.station.change(0, 6, 1);
        master.station.change(0, 7, 1);
        master.request(192, 0);
        check.due("of three only one was there still", master.station.events(0), 5);
        check.due("the ones that were not in it stay", master.request(193, 1, 60, 2, 7, 1),
            225, 129, 130, 0, 2, 1, 23, 1, 3, 129);
        Master all = withEvents(6, 0);
        all.request(192, 1, 60, 2, 7, 1);
        for (int i = 0; i < 4; i++) {
            all.station.change(0, 7, 1 - i % 2);
        }
        all.request(192, 0);
        check.due("none was there still", all.station.events(0), 6);
        check.due("and overflow is off all the same", all.request(192, 1), 192, 129, 130, 0);
    }

    private static void overflowGoesOff(Check check) {
        Master master = withEvents(6, 1);
        master.station.change(0, 6, 1);
        check.due("overflow is on", master.request(192, 1, 60, 3, 6)[3], 8);
        master.request(192, 0);
        check.due("and off", master.request(192, 1)[3], 0);
        master.station.change(0, 7, 1);
        check.due("and on again", master.request(192, 77)[3], 9);
    }

    private static void headersAreOfNoMatter(Check check) {
        Master master = withEvents(1, 0);
        master.request(192, 1, 60, 2, 6);
        check.silent("a confirm with headers", master.request(192, 0, 99, 1));
        check.due("is one", master.station.events(0), 0);
    }
}
