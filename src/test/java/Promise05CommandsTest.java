import java.util.Arrays;

/** Promise 5: WRITE, SELECT, OPERATE, DIRECT and other functions. */
public final class Promise05CommandsTest {
    private static final int SELECT = Master.SELECT;
    private static final int OPERATE = Master.OPERATE;
    private static final int DIRECT = Master.DIRECT;
    private static final int ON = Master.ON;
    private static final int OFF = Master.OFF;

    public static void main(String[] args) {
        Check.run(Promise05CommandsTest.class);
    }

    /** Bytes that differ from the right ones: one changed, one too few, one too many, none, twice. */
    private static int[][] wrongOnes(int[] right, int fixed) {
        int[][] wrong = new int[2 * fixed + 4][];
        for (int i = 0; i < fixed; i++) {
            wrong[2 * i] = right.clone();
            wrong[2 * i][i]++;
            wrong[2 * i + 1] = right.clone();
            wrong[2 * i + 1][i] ^= 128;
        }
        wrong[2 * fixed] = Arrays.copyOf(right, right.length - 1);
        wrong[2 * fixed + 1] = Arrays.copyOf(right, right.length + 1);
        wrong[2 * fixed + 2] = new int[0];
        wrong[2 * fixed + 3] = Master.join(right, right);
        return wrong;
    }

    @Holds("2 WRITE: with the bytes 80 1 0 7 7 0 alone: restart is off.")
    static void restartIsOff(Check check) {
        Master master = new Master();
        check.due("write", master.request(193, 2, 80, 1, 0, 7, 7, 0), Master.answerOf(193, 0, 0));
        check.due("it stays off", master.request(194, 1), Master.answerOf(194, 0, 0));
        check.due("once more", master.request(195, 2, 80, 1, 0, 7, 7, 0), Master.answerOf(195, 0, 0));
    }

    @Holds("Otherwise sign PARAMETER.")
    static void otherBytesToWrite(Check check) {
        for (int[] bytes : wrongOnes(new int[] {80, 1, 0, 7, 7, 0}, 6)) {
            Master master = new Master();
            check.due("write " + Arrays.toString(bytes), master.request(Master.join(new int[] {192, 2}, bytes)),
                Master.answerOf(192, 128, Master.PARAMETER));
            check.due("restart is on", master.read(), Master.answerOf(192, 128, 0));
        }
    }

    @Holds({"3 SELECT, 4 OPERATE, 5 DIRECT: with the bytes 12 1 23 1, a byte x, a byte v alone (otherwise sign PARAMETER);",
        "23 a byte n, and n objects."})
    static void otherBytesOfCommands(Check check) {
        for (int function = SELECT; function <= DIRECT; function++) {
            for (int[] bytes : wrongOnes(new int[] {12, 1, 23, 1, 2, ON}, 4)) {
                Master master = new Master();
                check.due("function " + function + " with " + Arrays.toString(bytes),
                    master.request(Master.join(new int[] {192, function}, bytes)),
                    Master.answerOf(192, 128, Master.PARAMETER));
                check.due("the output", master.station.point(2, 2), 0);
            }
            check.due("two objects", new Master().request(192, function, 12, 1, 23, 2, 0, ON, 1, ON),
                Master.answerOf(192, 128, Master.PARAMETER));
            check.due("no object", new Master().request(192, function, 12, 1, 23, 0),
                Master.answerOf(192, 128, Master.PARAMETER));
        }
    }

    @Holds({"the data are these and a STATUS: 4 x is above 3;", "3 v is neither 3 (on) nor 4 (off);"})
    static void outputsAndValues(Check check) {
        for (int function : new int[] {SELECT, DIRECT}) {
            for (int x : new int[] {0, 1, 2, 3, 4, 5, 127, 128, 255}) {
                for (int v : new int[] {0, 1, 2, 3, 4, 5, 128, 131, 255}) {
                    int status = x > 3 ? 4 : v == ON || v == OFF ? 0 : 3;
                    Master master = new Master();
                    check.due("function " + function + ", x " + x + ", v " + v, master.command(2, function, x, v),
                        Master.answerOf(194, 128, 0, 12, 1, 23, 1, x, v, status));
                    for (int y = 0; y < 4; y++) {
                        boolean on = function == DIRECT && y == x && v == ON;
                        check.due("output " + y + " then", master.station.point(2, y), on ? 1 : 0);
                    }
                }
            }
        }
    }

    @Holds({"the data are these and a STATUS: 4 x is above 3;", "3 v is neither 3 (on) nor 4 (off);",
        "for OPERATE: 2 nothing is selected,"})
    static void theFirstFaultCounts(Check check) {
        Master master = new Master();
        check.due("x and v and nothing selected", master.statusOf(1, OPERATE, 4, 5), 4);
        check.due("v and nothing selected", master.statusOf(1, OPERATE, 3, 5), 3);
        check.due("v below and nothing selected", master.statusOf(1, OPERATE, 3, 2), 3);
        check.due("nothing selected", master.statusOf(1, OPERATE, 3, ON), 2);
        check.due("select", master.statusOf(1, SELECT, 3, ON), 0);
        master.station.pass(11);
        check.due("something other, and too late", master.statusOf(2, OPERATE, 3, OFF), 2);
        check.due("select", master.statusOf(1, SELECT, 3, ON), 0);
        master.station.pass(11);
        check.due("another number, and too late", master.statusOf(3, OPERATE, 3, ON), 2);
        check.due("no output", master.station.point(2, 3), 0);
    }

    @Holds("otherwise 0, and the output becomes 1 or 0 (4, 5), or x and v are selected (3).")
    static void onAndOff(Check check) {
        for (int x = 0; x < 4; x++) {
            Master master = new Master();
            check.due("select", master.command(0, SELECT, x, ON), Master.answerOf(192, 128, 0, 12, 1, 23, 1, x, ON, 0));
            check.due("selecting is not operating", master.station.point(2, x), 0);
            check.due("operate", master.command(1, OPERATE, x, ON), Master.answerOf(193, 128, 0, 12, 1, 23, 1, x, ON, 0));
            for (int y = 0; y < 4; y++) {
                check.due("output " + y + " then", master.station.point(2, y), y == x ? 1 : 0);
            }
            check.due("select off", master.statusOf(2, SELECT, x, OFF), 0);
            check.due("it is on still", master.station.point(2, x), 1);
            check.due("operate off", master.statusOf(3, OPERATE, x, OFF), 0);
            check.due("it is off", master.station.point(2, x), 0);
            check.due("direct on", master.statusOf(9, DIRECT, x, ON), 0);
            check.due("on again", master.statusOf(9, DIRECT, x, ON), 0);
            check.due("it is on", master.station.point(2, x), 1);
            check.due("outputs have no events", master.station.events(0) + master.station.events(1), 0);
        }
    }

    @Holds("or something other than x and v,")
    static void somethingOtherIsSelected(Check check) {
        for (int x = 0; x < 4; x++) {
            for (int v = ON; v <= OFF; v++) {
                Master master = new Master();
                master.command(0, SELECT, 2, ON);
                boolean same = x == 2 && v == ON;
                check.due("x " + x + ", v " + v, master.statusOf(1, OPERATE, x, v), same ? 0 : 2);
                check.due("the output", master.station.point(2, x), same ? 1 : 0);
            }
        }
        Master master = new Master();
        master.command(0, SELECT, 0, ON);
        master.command(1, SELECT, 1, ON);
        check.due("a later selection counts", master.statusOf(2, OPERATE, 1, ON), 0);
        master.command(3, SELECT, 0, OFF);
        master.command(3, SELECT, 1, OFF);
        check.due("the earlier one does not", master.statusOf(4, OPERATE, 0, OFF), 2);
    }

    @Holds("or by a request whose number plus 1 modulo 16 is not this one;")
    static void numbers(Check check) {
        for (int selected = 0; selected < 16; selected++) {
            for (int number = 0; number < 16; number++) {
                Master master = new Master();
                master.command(selected, SELECT, 1, ON);
                check.due("number " + number + " behind " + selected, master.statusOf(number, OPERATE, 1, ON),
                    number == (selected + 1) % 16 ? 0 : 2);
            }
        }
    }

    @Holds("Any request other than 0 and 3 makes that nothing is selected (4: behind it),")
    static void whatEndsASelection(Check check) {
        int[][] ending = {{1}, {1, 1, 2, 6}, {2, 80, 1, 0, 7, 7, 0}, {2}, {4}, {4, 12, 1, 23, 1, 4, ON},
            {4, 12, 1, 23, 1, 1, 5}, {4, 12, 1, 23, 1, 0, ON}, {4, 12, 1, 23, 1, 1, OFF}, {5}, {5, 12, 1, 23, 1, 0, ON},
            {5, 12, 1, 23, 1, 9, ON}, {6}, {128}, {255}};
        for (int[] other : ending) {
            Master master = new Master();
            master.command(0, SELECT, 1, ON);
            master.request(Master.join(192, other));
            check.due("behind " + Arrays.toString(other), master.statusOf(1, OPERATE, 1, ON), 2);
            check.due("the output", master.station.point(2, 1), 0);
        }
        Master master = new Master();
        master.command(0, SELECT, 1, ON);
        check.due("operate", master.statusOf(1, OPERATE, 1, ON), 0);
        check.due("behind it there is nothing", master.statusOf(1, OPERATE, 1, ON), 2);
        master.command(0, SELECT, 1, ON);
        master.station.pass(11);
        check.due("too late", master.statusOf(1, OPERATE, 1, ON), 1);
        check.due("that ends it too", master.statusOf(1, OPERATE, 1, ON), 2);
    }

    @Holds("Any request other than 0 and 3 makes that nothing is selected")
    static void whatLeavesASelection(Check check) {
        Master master = Master.withEvents(1, 1);
        master.read(60, 2, 6);
        master.command(15, SELECT, 1, ON);
        master.confirm(0);
        master.confirm(15);
        master.station.change(0, 0, 0);
        master.station.ask(Master.packed(1, 0, 0, 0, 8), 5);
        master.station.sum(1, 1);
        master.bringPart(Master.FIRST, 192, 1);
        master.bring(1, 2, 3);
        check.due("operate", master.statusOf(0, OPERATE, 1, ON), 0);
    }

    @Holds("and so does a 3 that selects nothing itself.")
    static void aSelectThatSelectsNothing(Check check) {
        int[][] ending = {{3}, {3, 12, 1, 23, 1, 4, ON}, {3, 12, 1, 23, 1, 1, 5}, {3, 12, 1, 23, 1, 1, 2},
            {3, 12, 1, 23, 1, 1, ON, 0}, {3, 12, 1, 23, 1, 1}, {3, 12, 1, 23, 2, 1, ON}};
        for (int[] other : ending) {
            for (int number = 0; number < 2; number++) {
                Master master = new Master();
                master.command(0, SELECT, 1, ON);
                master.request(Master.join(192 + number, other));
                check.due("behind " + Arrays.toString(other), master.statusOf(1 + number, OPERATE, 1, ON), 2);
            }
        }
    }

    @Holds("Others: sign FUNCTION.")
    static void otherFunctions(Check check) {
        for (int function = 6; function < 256; function++) {
            check.due("function " + function, new Master().request(193, function, 1, 2, 6),
                Master.answerOf(193, 128, Master.FUNCTION));
        }
    }
}
