/** Promise 2: a point's value in the field, its events and the overflow. */
public final class Promise02ChangeTest {
    private static final int[] FAR = {Integer.MIN_VALUE, -1, 8, 9, 255, Integer.MAX_VALUE};

    public static void main(String[] args) {
        Check.run(Promise02ChangeTest.class);
    }

    @Holds({"POINTS: 8 BINARY ones (kind 0, values 0 and 1)", "A point's value in the field."})
    static void eightBinaryPoints(Check check) {
        for (int p = 0; p < 8; p++) {
            OutStation x = new OutStation();
            x.change(0, p, 1);
            for (int other = 0; other < 8; other++) {
                check.due("point(0, " + other + ")", x.point(0, other), other == p ? 1 : 0);
                check.due("point(1, " + other + ")", x.point(1, other), 0);
            }
            x.change(0, p, 0);
            check.due("point(0, " + p + ") again", x.point(0, p), 0);
        }
    }

    @Holds({"8 ANALOG ones (kind 1, ints);", "A point's value in the field."})
    static void eightAnalogPoints(Check check) {
        for (int p = 0; p < 8; p++) {
            OutStation x = new OutStation();
            for (int value : new int[] {1, -1, 65536, Integer.MAX_VALUE, Integer.MIN_VALUE, 0}) {
                x.change(1, p, value);
                for (int other = 0; other < 8; other++) {
                    check.due("point(1, " + other + ")", x.point(1, other), other == p ? value : 0);
                }
                check.due("point(0, " + p + ")", x.point(0, p), 0);
            }
        }
    }

    @Holds("IllegalArgumentException: there is no such kind or point,")
    static void noSuchKind(Check check) {
        OutStation x = new OutStation();
        for (int kind : new int[] {Integer.MIN_VALUE, -2, -1, 2, 3, 4, Integer.MAX_VALUE}) {
            for (int p : new int[] {-1, 0, 3, 7, 8}) {
                check.badArgument("change(" + kind + ", " + p + ", 1)", () -> x.change(kind, p, 1));
                check.badArgument("change(" + kind + ", " + p + ", 0)", () -> x.change(kind, p, 0));
            }
        }
        check.due("outputs are not changed so", x.point(2, 0) + x.point(2, 3), 0);
        check.due("no event came of it", x.events(0) + x.events(1), 0);
    }

    @Holds("IllegalArgumentException: there is no such kind or point,")
    static void noSuchPoint(Check check) {
        OutStation x = new OutStation();
        for (int p : FAR) {
            check.badArgument("change(0, " + p + ", 1)", () -> x.change(0, p, 1));
            check.badArgument("change(0, " + p + ", 0)", () -> x.change(0, p, 0));
            check.badArgument("change(1, " + p + ", 1)", () -> x.change(1, p, 1));
        }
        check.due("no event came of it", x.events(0) + x.events(1), 0);
        check.due("nor a value", x.point(0, 0) + x.point(0, 7) + x.point(1, 0) + x.point(1, 7), 0);
    }

    @Holds("or it is no value of it.")
    static void noValueOfABinaryPoint(Check check) {
        OutStation x = new OutStation();
        x.change(0, 7, 1);
        for (int value : new int[] {Integer.MIN_VALUE, -1, 2, 3, 128, 256, Integer.MAX_VALUE}) {
            check.badArgument("change(0, 0, " + value + ")", () -> x.change(0, 0, value));
            check.badArgument("change(0, 7, " + value + ")", () -> x.change(0, 7, value));
        }
        check.due("point(0, 0) is as it was", x.point(0, 0), 0);
        check.due("point(0, 7) is as it was", x.point(0, 7), 1);
        check.due("one event as before", x.events(0), 1);
    }

    @Holds("When a point changes to another value, that is an EVENT")
    static void theSameValueIsNoEvent(Check check) {
        OutStation x = new OutStation();
        x.change(0, 3, 0);
        x.change(1, 3, 0);
        check.due("events behind a 0 that was 0", x.events(0) + x.events(1), 0);
        x.change(0, 3, 1);
        x.change(0, 3, 1);
        x.change(1, 3, Integer.MIN_VALUE);
        x.change(1, 3, Integer.MIN_VALUE);
        check.due("binary events", x.events(0), 1);
        check.due("analog events", x.events(1), 1);
        x.change(0, 3, 0);
        x.change(0, 3, 1);
        check.due("there and back are two more", x.events(0), 3);
        check.due("of that kind alone", x.events(1), 1);
    }

    @Holds("(point, value) at the end of its kind's row,")
    static void theRowsAreInTheirOrder(Check check) {
        Master master = new Master();
        master.station.change(0, 7, 1);
        master.station.change(1, 0, Integer.MIN_VALUE);
        master.station.change(0, 0, 1);
        master.station.change(1, 7, -1);
        master.station.change(0, 7, 0);
        check.due("both rows", master.read(60, 2, 6, 60, 3, 6), Master.answerOf(224, 134, 0,
            2, 1, 23, 3, 7, 129, 0, 129, 7, 1,
            32, 1, 23, 2, 0, 1, 0, 0, 0, 128, 7, 1, 255, 255, 255, 255));
    }

    @Holds("of at most 6; when there are 6, the first one goes,")
    static void aSeventhEvent(Check check) {
        Master binary = Master.withEvents(6, 0);
        check.due("six events", binary.station.events(0), 6);
        binary.station.change(0, 6, 1);
        check.due("six of seven", binary.station.events(0), 6);
        check.due("from the second one on", binary.read(60, 2, 6), Master.answerOf(224, 130, Master.OVERFLOW,
            2, 1, 23, 6, 1, 129, 2, 129, 3, 129, 4, 129, 5, 129, 6, 129));
        Master analog = Master.withEvents(0, 7);
        check.due("six of seven analog ones", analog.station.events(1), 6);
        check.due("their first one", analog.read(60, 3, 7, 1),
            Master.answerOf(224, 132, Master.OVERFLOW, 32, 1, 23, 1, 1, 1, 11, 0, 0, 0));
    }

    @Holds("of at most 6; when there are 6, the first one goes,")
    static void manyMoreThanSix(Check check) {
        for (int many = 6; many <= 20; many++) {
            Master master = new Master();
            for (int i = 1; i <= many; i++) {
                master.station.change(1, i % 8, i);
            }
            int[] data = {32, 1, 23, 6};
            for (int i = many - 5; i <= many; i++) {
                data = Master.join(data, new int[] {i % 8, 1, i, 0, 0, 0});
            }
            check.due("the latest six of " + many, master.read(60, 3, 6),
                Master.answerOf(224, 132, many == 6 ? 0 : Master.OVERFLOW, data));
        }
    }

    @Holds("when there are 6, the first one goes, and OVERFLOW is on.")
    static void overflow(Check check) {
        check.due("six of each kind", Master.withEvents(6, 6).secondSigns(), 0);
        check.due("a seventh binary one", Master.withEvents(7, 0).secondSigns(), Master.OVERFLOW);
        check.due("a seventh analog one", Master.withEvents(0, 7).secondSigns(), Master.OVERFLOW);
        Master seven = Master.withEvents(7, 6);
        check.due("the other kind keeps its first one", seven.read(60, 3, 7, 1),
            Master.answerOf(224, 134, Master.OVERFLOW, 32, 1, 23, 1, 0, 1, 10, 0, 0, 0));
        check.due("it stays on", seven.secondSigns(), Master.OVERFLOW);
    }

    @Holds({"When a point changes to another value, that is an EVENT", "of at most 6; when there are 6,"})
    static void noEventLeavesAFullRow(Check check) {
        Master master = Master.withEvents(6, 6);
        master.station.change(0, 0, 1);
        master.station.change(0, 7, 0);
        master.station.change(1, 5, 15);
        check.badArgument("no value", () -> master.station.change(0, 7, 2));
        check.badArgument("no point", () -> master.station.change(1, 8, 1));
        check.due("no overflow came of it", master.secondSigns(), 0);
        check.due("the first ones are there", master.read(60, 2, 7, 1, 60, 3, 7, 1), Master.answerOf(224, 134, 0,
            2, 1, 23, 1, 0, 129, 32, 1, 23, 1, 0, 1, 10, 0, 0, 0));
    }
}
