/** Promise 5: READ of events, and the room for them. */
public final class Promise05ReadEventsTest {
    private static final int ROOM = 58;
    private static final int FRONT = 4;

    public static void main(String[] args) {
        Check.run(Promise05ReadEventsTest.class);
    }

    /** The data of the events that withEvents makes. */
    private static int[] binary(int first, int n) {
        int[] data = {2, 1, 23, n};
        for (int i = first; i < first + n; i++) {
            data = Master.join(data, new int[] {i, 129});
        }
        return data;
    }

    private static int[] analog(int first, int n) {
        int[] data = {32, 1, 23, n};
        for (int i = first; i < first + n; i++) {
            data = Master.join(data, new int[] {i, 1, 10 + i, 0, 0, 0});
        }
        return data;
    }

    @Holds({"60 2 (binary) and 60 3 (analog) with 6 or 7: events,", "2 1 23 and how many, and for each the point and"
        + " 1 + 128 * value; 32 1 23 and how many, and for each the point, a byte 1, four bytes;"})
    static void bothKinds(Check check) {
        Master master = new Master();
        master.station.change(0, 5, 1);
        master.station.change(0, 5, 0);
        master.station.change(1, 7, -2);
        master.station.change(1, 0, 0x01020304);
        check.due("binary ones", master.read(60, 2, 6), Master.answerOf(224, 134, 0, 2, 1, 23, 2, 5, 129, 5, 1));
        check.due("analog ones", master.read(60, 3, 6),
            Master.answerOf(224, 134, 0, 32, 1, 23, 2, 7, 1, 254, 255, 255, 255, 0, 1, 4, 3, 2, 1));
        check.due("one of each", master.read(60, 3, 7, 1, 60, 2, 7, 1),
            Master.answerOf(224, 134, 0, 32, 1, 23, 1, 7, 1, 254, 255, 255, 255, 2, 1, 23, 1, 5, 129));
    }

    @Holds({"at most n (6: all),", "7 a byte n;"})
    static void atMost(Check check) {
        for (int there = 1; there <= 6; there++) {
            for (int n : new int[] {1, 2, 5, 6, 7, 8, 127, 128, 255}) {
                int given = Math.min(n, there);
                check.due("at most " + n + " of " + there, Master.withEvents(there, 0).read(60, 2, 7, n),
                    Master.answerOf(224, 130, 0, binary(0, given)));
                check.due("at most " + n + " of " + there + " analog ones", Master.withEvents(0, there).read(60, 3, 7, n),
                    Master.answerOf(224, 132, 0, analog(0, given)));
            }
            check.due("all of " + there, Master.withEvents(there, 0).read(60, 2, 6),
                Master.answerOf(224, 130, 0, binary(0, there)));
            check.due("all of " + there + " analog ones", Master.withEvents(0, there).read(60, 3, 6),
                Master.answerOf(224, 132, 0, analog(0, there)));
        }
    }

    @Holds({"when there are none, nothing.", "at most n (6: all),"})
    static void none(Check check) {
        check.due("no binary ones", new Master().read(60, 2, 6), Master.answerOf(192, 128, 0));
        check.due("no analog ones", new Master().read(60, 3, 7, 3), Master.answerOf(192, 128, 0));
        check.due("none of that kind", Master.withEvents(0, 6).read(60, 2, 7, 6), Master.answerOf(192, 132, 0));
        check.due("none of the other kind", Master.withEvents(6, 0).read(60, 3, 6), Master.answerOf(192, 130, 0));
        check.due("at most 0", Master.withEvents(1, 1).read(60, 2, 7, 0, 60, 3, 7, 0), Master.answerOf(192, 134, 0));
        check.due("what follows is looked at", Master.withEvents(0, 0).read(60, 2, 6, 60, 3, 7, 0, 1, 2, 0, 0, 0),
            Master.answerOf(192, 128, 0, 1, 2, 0, 0, 0, 1));
    }

    @Holds("from the first one on that is not in this answer already,")
    static void onceInAnAnswer(Check check) {
        Master master = Master.withEvents(4, 2);
        check.due("one, two, what is left, and none",
            master.read(60, 2, 7, 1, 60, 3, 7, 1, 60, 2, 7, 2, 60, 2, 6, 60, 2, 6, 60, 3, 6),
            Master.answerOf(224, 134, 0,
                Master.join(binary(0, 1), analog(0, 1), binary(1, 2), binary(3, 1), analog(1, 1))));
        check.due("the next answer begins with the first one", master.read(60, 2, 7, 1),
            Master.answerOf(224, 134, 0, binary(0, 1)));
        check.due("one by one to the last", Master.withEvents(6, 0).read(Master.times(7, 60, 2, 7, 1)),
            Master.answerOf(224, 130, 0, Master.join(binary(0, 1), binary(1, 1), binary(2, 1), binary(3, 1),
                binary(4, 1), binary(5, 1))));
    }

    @Holds("from the first one on that is not in this answer already,")
    static void theyStayUntilConfirmed(Check check) {
        Master master = Master.withEvents(2, 0);
        for (int i = 0; i < 3; i++) {
            check.due("time " + i, master.read(60, 2, 6), Master.answerOf(224, 130, 0, binary(0, 2)));
        }
        master.confirm(0);
        check.due("behind a confirm", master.read(60, 2, 6), Master.answerOf(192, 128, 0));
    }

    @Holds({"as many as there are room for:", "room for events is reckoned with their four bytes in front.)"})
    static void binaryEventsAndRoom(Check check) {
        for (int used = 6; used <= ROOM; used++) {
            for (int there = 1; there <= 6; there++) {
                int n = Math.min(there, Math.max(ROOM - used - FRONT, 0) / 2);
                String what = there + " binary events behind " + used + " bytes";
                check.due(what, Master.withEvents(there, 0).readBehind(used, 60, 2, 6), n == 0 ? new int[0] : binary(0, n));
            }
        }
    }

    @Holds({"as many as there are room for:", "room for events is reckoned with their four bytes in front.)"})
    static void analogEventsAndRoom(Check check) {
        for (int used = 6; used <= ROOM; used++) {
            for (int there = 1; there <= 6; there++) {
                int n = Math.min(there, Math.max(ROOM - used - FRONT, 0) / 6);
                String what = there + " analog events behind " + used + " bytes";
                check.due(what, Master.withEvents(0, there).readBehind(used, 60, 3, 6), n == 0 ? new int[0] : analog(0, n));
            }
        }
    }

    @Holds("room for events is reckoned with their four bytes in front.)")
    static void theEdgesOfTheRoom(Check check) {
        check.due("six bytes hold one binary event", Master.withEvents(2, 0).readBehind(52, 60, 2, 6), binary(0, 1));
        check.due("five hold none", Master.withEvents(2, 0).readBehind(53, 60, 2, 6));
        check.due("four hold none", Master.withEvents(2, 0).readBehind(54, 60, 2, 6));
        check.due("three hold none", Master.withEvents(2, 0).readBehind(55, 60, 2, 6));
        check.due("none hold none", Master.withEvents(2, 0).readBehind(58, 60, 2, 6));
        check.due("ten hold one analog event", Master.withEvents(0, 2).readBehind(48, 60, 3, 6), analog(0, 1));
        check.due("nine hold none", Master.withEvents(0, 2).readBehind(49, 60, 3, 6));
        check.due("40 hold six", Master.withEvents(0, 6).readBehind(18, 60, 3, 6), analog(0, 6));
        check.due("39 hold five", Master.withEvents(0, 6).readBehind(19, 60, 3, 6), analog(0, 5));
        check.due("all twelve have room", Master.withEvents(6, 6).read(60, 2, 6, 60, 3, 6),
            Master.answerOf(224, 134, 0, Master.join(binary(0, 6), analog(0, 6))));
    }

    @Holds("as many as there are room for:")
    static void whatHasNoRoomComesLater(Check check) {
        Master master = Master.withEvents(3, 3);
        int[] none = master.read(Master.join(Master.headersFor(53), new int[] {60, 2, 6, 60, 3, 6}));
        check.due("then it asks for no confirm", none[0], 192);
        check.due("and that has no sign", none[3], 0);
        check.due("what has room behind it is given", Master.withEvents(3, 3).readBehind(50, 60, 3, 6, 60, 2, 6), binary(0, 2));
        check.due("points too", Master.withEvents(0, 3).readBehind(52, 60, 3, 6, 1, 2, 0, 7, 7), 1, 2, 0, 7, 7, 1);
        master.read(Master.join(Master.headersFor(52), new int[] {60, 2, 6}));
        master.confirm(0);
        check.due("the one that had room goes", master.station.events(0), 2);
        check.due("the next ones come", master.read(60, 2, 6), Master.answerOf(224, 134, 0, binary(1, 2)));
    }
}
