import java.util.Arrays;

/** Promise 5: READ of points, and the room for them. */
public final class Promise05ReadPointsTest {
    private static final int ROOM = 58;

    public static void main(String[] args) {
        Check.run(Promise05ReadPointsTest.class);
    }

    private static Master withValues() {
        Master master = new Master();
        for (int p : new int[] {0, 2, 7}) {
            master.station.change(0, p, 1);
        }
        int[] values = {1, -1, 0x01020304, 0, 255, 256, Integer.MAX_VALUE, Integer.MIN_VALUE};
        for (int p = 0; p < 8; p++) {
            master.station.change(1, p, values[p]);
        }
        return master;
    }

    private static int[] binaryOf(OutStation x, int first, int last) {
        int[] data = {1, 2, 0, first, last};
        for (int p = first; p <= last; p++) {
            data = Master.join(data, new int[] {x.point(0, p) == 1 ? 129 : 1});
        }
        return data;
    }

    private static int[] analogOf(OutStation x, int first, int last) {
        int[] data = {30, 1, 0, first, last};
        for (int p = first; p <= last; p++) {
            int v = x.point(1, p);
            data = Master.join(data, new int[] {1, v & 255, v >> 8 & 255, v >> 16 & 255, v >>> 24});
        }
        return data;
    }

    @Holds({"1 READ: each header in its order:", "6 nothing;"})
    static void headersInTheirOrder(Check check) {
        Master master = withValues();
        OutStation x = master.station;
        check.due("no header", master.read(), Master.answerOf(192, 134, Master.OVERFLOW));
        check.due("analog, binary, binary", master.read(30, 1, 0, 2, 2, 1, 2, 6, 1, 2, 0, 2, 2),
            Master.answerOf(192, 134, Master.OVERFLOW,
                Master.join(analogOf(x, 2, 2), binaryOf(x, 0, 7), binaryOf(x, 2, 2))));
        check.due("the same twice", master.read(1, 2, 0, 7, 7, 1, 2, 0, 7, 7),
            Master.answerOf(192, 134, Master.OVERFLOW, 1, 2, 0, 7, 7, 129, 1, 2, 0, 7, 7, 129));
    }

    @Holds({"1 2 with 0 or 6: binary points (6: all): 1 2 0 first last, and for each 1 + 128 * value.",
        "group, variation, qualifier, and what goes with this: 0 two bytes, first and last;"})
    static void binaryPoints(Check check) {
        for (int first = 0; first < 8; first++) {
            for (int last = first; last < 8; last++) {
                Master master = withValues();
                check.due("binary " + first + " to " + last, master.read(1, 2, 0, first, last),
                    Master.answerOf(192, 134, Master.OVERFLOW, binaryOf(master.station, first, last)));
            }
        }
        check.due("all", withValues().read(1, 2, 6),
            192, 129, 134, Master.OVERFLOW, 1, 2, 0, 0, 7, 129, 1, 129, 1, 1, 1, 1, 129);
    }

    @Holds("30 1 likewise analog ones: 30 1 0 first last, and for each a byte 1 and four bytes, the lowest first.")
    static void analogPoints(Check check) {
        for (int first = 0; first < 8; first++) {
            for (int last = first; last < 8; last++) {
                Master master = withValues();
                check.due("analog " + first + " to " + last, master.read(30, 1, 0, first, last),
                    Master.answerOf(192, 134, Master.OVERFLOW, analogOf(master.station, first, last)));
            }
        }
        check.due("the least and the greatest int", withValues().read(30, 1, 0, 6, 7), Master.answerOf(
            192, 134, Master.OVERFLOW, 30, 1, 0, 6, 7, 1, 255, 255, 255, 127, 1, 0, 0, 0, 128));
        Master master = withValues();
        check.due("all", master.read(30, 1, 6),
            Master.answerOf(192, 134, Master.OVERFLOW, analogOf(master.station, 0, 7)));
    }

    @Holds({"60 1 with 6: both, all.", "An answer has room for 58 bytes of data;"})
    static void bothFillTheAnswer(Check check) {
        Master master = withValues();
        int[] both = Master.join(binaryOf(master.station, 0, 7), analogOf(master.station, 0, 7));
        check.due("they have 58 bytes", both.length, ROOM);
        check.due("60 1", master.read(60, 1, 6), Master.answerOf(192, 134, Master.OVERFLOW, both));
        check.due("1 2 and 30 1", master.read(1, 2, 6, 30, 1, 6), Master.answerOf(192, 134, Master.OVERFLOW, both));
        check.due("and one point more", master.read(60, 1, 6, 1, 2, 0, 0, 0),
            Master.answerOf(192, 134, Master.OVERFLOW + Master.PARAMETER, both));
    }

    @Holds({"points for which there is no room,", "These give nothing, and what follows them is not looked at."})
    static void bothWithoutRoom(Check check) {
        for (int used = 6; used <= ROOM; used++) {
            Master master = new Master();
            int[] answer = master.read(Master.join(Master.headersFor(used), new int[] {60, 1, 6, 1, 2, 0, 0, 0}));
            check.due("60 1 behind " + used + " bytes, length", answer.length, 4 + used);
            check.due("60 1 behind " + used + " bytes, sign", answer[3], Master.PARAMETER);
        }
    }

    @Holds({"points for which there is no room,", "(An answer has room for 58 bytes of data;"})
    static void binaryPointsAndRoom(Check check) {
        for (int used = 6; used <= ROOM; used++) {
            for (int n = 1; n <= 8; n++) {
                dueWithRoom(check, used, 5 + n, 1, 2, 0, 8 - n, 7);
            }
            dueWithRoom(check, used, 13, 1, 2, 6);
        }
    }

    @Holds({"points for which there is no room,", "(An answer has room for 58 bytes of data;"})
    static void analogPointsAndRoom(Check check) {
        for (int used = 6; used <= ROOM; used++) {
            for (int n = 1; n <= 8; n++) {
                dueWithRoom(check, used, 5 + 5 * n, 30, 1, 0, 0, n - 1);
            }
            dueWithRoom(check, used, 45, 30, 1, 6);
        }
    }

    /** A header behind others: it gives all its bytes, or none and a sign. */
    private static void dueWithRoom(Check check, int used, int needed, int... header) {
        boolean room = used + needed <= ROOM;
        String what = Arrays.toString(header) + " behind " + used + " bytes";
        int[] answer = new Master().read(Master.join(Master.headersFor(used), header));
        check.due(what + ", length", answer.length, 4 + used + (room ? needed : 0));
        check.due(what + ", sign", answer[3], room ? 0 : Master.PARAMETER);
    }

    @Holds("These give nothing, and what follows them is not looked at.")
    static void noLaterPointsTakeTheRoom(Check check) {
        int[] nine = Master.times(9, 1, 2, 0, 0, 0);
        check.due("54 bytes, and six more without room",
            new Master().read(Master.join(nine, new int[] {1, 2, 0, 3, 3, 1, 2, 0, 0, 0})),
            Master.answerOf(192, 128, Master.PARAMETER, Master.times(9, 1, 2, 0, 0, 0, 1)));
        check.due("45 bytes behind 26, and 6 that would have room",
            new Master().read(Master.join(Master.headersFor(26), new int[] {30, 1, 6, 1, 2, 0, 0, 0})).length, 4 + 26);
    }
}
