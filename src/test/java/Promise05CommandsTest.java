import java.util.Arrays;

/** Promise 5: WRITE, SELECT, OPERATE and DIRECT. */
public final class Promise05CommandsTest {
    private static final int SELECT = 3;
    private static final int OPERATE = 4;
    private static final int DIRECT = 5;
    private static final int ON = 3;
    private static final int OFF = 4;

    public static void main(String[] args) {
        Check check = new Check();
        writing(check);
        direct(check);
        selectAndOperate(check);
        selectedOtherwise(check);
        numbers(check);
        whatEndsASelection(check);
        wrongOutputsAndValues(check);
        wrongBytes(check);
        check.end();
    }

    private static int[] command(Master master, int number, int function, int x, int v) {
        return master.request(192 + number, function, 12, 1, 23, 1, x, v);
    }

    private static void dueStatus(Check check, String what, int[] answer, int status) {
        check.due(what, answer == null || answer.length != 11 ? -1 : answer[10], status);
    }

    private static void writing(Check check) {
        int[][] wrong = {{}, {80}, {80, 1, 0, 7, 7}, {80, 1, 0, 7, 7, 1}, {80, 1, 0, 7, 8, 0}, {80, 1, 0, 6, 7, 0},
            {80, 1, 1, 7, 7, 0}, {80, 2, 0, 7, 7, 0}, {81, 1, 0, 7, 7, 0}, {80, 1, 0, 7, 7, 0, 0}};
        Master master = new Master(new OutStation());
        for (int[] bytes : wrong) {
            check.due("write " + Arrays.toString(bytes), master.request(Master.join(new int[] {192, 2}, bytes)),
                192, 129, 128, 4);
        }
        check.due("write", master.request(193, 2, 80, 1, 0, 7, 7, 0), 193, 129, 0, 0);
        check.due("restart stays off", master.request(194, 1), 194, 129, 0, 0);
        check.due("once more", master.request(195, 2, 80, 1, 0, 7, 7, 0), 195, 129, 0, 0);
    }

    private static void direct(Check check) {
        for (int x = 0; x < 4; x++) {
            Master master = new Master(new OutStation());
            check.due("on", command(master, 6, DIRECT, x, ON), 198, 129, 128, 0, 12, 1, 23, 1, x, ON, 0);
            for (int y = 0; y < 4; y++) {
                check.due("output " + y, master.station.point(2, y), y == x ? 1 : 0);
            }
            check.due("off", command(master, 6, DIRECT, x, OFF), 198, 129, 128, 0, 12, 1, 23, 1, x, OFF, 0);
            check.due("output " + x, master.station.point(2, x), 0);
        }
        Master master = new Master(new OutStation());
        command(master, 0, DIRECT, 0, ON);
        check.due("outputs have no events", master.station.events(0) + master.station.events(1), 0);
    }

    private static void selectAndOperate(Check check) {
        Master master = new Master(new OutStation());
        check.due("select", command(master, 0, SELECT, 2, ON), 192, 129, 128, 0, 12, 1, 23, 1, 2, ON, 0);
        check.due("does not operate", master.station.point(2, 2), 0);
        check.due("operate", command(master, 1, OPERATE, 2, ON), 193, 129, 128, 0, 12, 1, 23, 1, 2, ON, 0);
        check.due("does", master.station.point(2, 2), 1);
        dueStatus(check, "but once", command(master, 2, OPERATE, 2, ON), 2);
        dueStatus(check, "select off", command(master, 3, SELECT, 2, OFF), 0);
        dueStatus(check, "operate off", command(master, 4, OPERATE, 2, OFF), 0);
        check.due("it is off", master.station.point(2, 2), 0);
        command(master, 5, SELECT, 0, ON);
        command(master, 6, SELECT, 1, ON);
        dueStatus(check, "a later selection counts", command(master, 7, OPERATE, 1, ON), 0);
    }

    private static void selectedOtherwise(Check check) {
        Master master = new Master(new OutStation());
        dueStatus(check, "nothing is selected", command(master, 1, OPERATE, 0, ON), 2);
        dueStatus(check, "not with all zero either", command(master, 1, OPERATE, 0, OFF), 2);
        command(master, 0, SELECT, 2, ON);
        dueStatus(check, "another output", command(master, 1, OPERATE, 3, ON), 2);
        dueStatus(check, "that ends it", command(master, 1, OPERATE, 2, ON), 2);
        command(master, 0, SELECT, 2, ON);
        dueStatus(check, "another value", command(master, 1, OPERATE, 2, OFF), 2);
        command(master, 0, SELECT, 2, ON);
        master.station.pass(11);
        dueStatus(check, "another one and too late", command(master, 1, OPERATE, 2, OFF), 2);
        command(master, 0, SELECT, 2, ON);
        master.station.pass(11);
        dueStatus(check, "too late", command(master, 1, OPERATE, 2, ON), 1);
        dueStatus(check, "that ends it too", command(master, 1, OPERATE, 2, ON), 2);
        check.due("nothing was operated", master.station.point(2, 2) + master.station.point(2, 3), 0);
    }

    private static void numbers(Check check) {
        for (int selected = 0; selected < 16; selected++) {
            for (int number = 0; number < 16; number += selected == 15 ? 1 : 5) {
                Master master = new Master(new OutStation());
                command(master, selected, SELECT, 1, ON);
                dueStatus(check, "number " + number + " behind " + selected,
                    command(master, number, OPERATE, 1, ON), number == (selected + 1) % 16 ? 0 : 2);
            }
        }
    }

    private static void whatEndsASelection(Check check) {
        int[][] ending = {{1}, {2, 80, 1, 0, 7, 7, 0}, {2}, {77}, {4}, {4, 12, 1, 23, 1, 9, 3}, {5},
            {5, 12, 1, 23, 1, 0, 3}, {5, 12, 1, 23, 1, 9, 3}, {3}, {3, 12, 1, 23, 1, 4, 3}, {3, 12, 1, 23, 1, 1, 5},
            {3, 12, 1, 23, 1, 1, 3, 0}};
        for (int[] other : ending) {
            Master master = new Master(new OutStation());
            command(master, 0, SELECT, 1, ON);
            master.request(Master.join(new int[] {192}, other));
            dueStatus(check, "behind " + Arrays.toString(other), command(master, 1, OPERATE, 1, ON), 2);
        }
        Master master = new Master(new OutStation());
        command(master, 0, SELECT, 1, ON);
        master.request(192, 0);
        master.station.change(0, 0, 1);
        dueStatus(check, "a confirm leaves it", command(master, 1, OPERATE, 1, ON), 0);
    }

    private static void wrongOutputsAndValues(Check check) {
        for (int function = SELECT; function <= DIRECT; function++) {
            Master master = new Master(new OutStation());
            for (int x : new int[] {4, 5, 128, 255}) {
                check.due("output " + x, command(master, 2, function, x, ON),
                    194, 129, 128, 0, 12, 1, 23, 1, x, ON, 4);
            }
            for (int v : new int[] {0, 1, 2, 5, 255}) {
                check.due("value " + v, command(master, 2, function, 3, v),
                    194, 129, 128, 0, 12, 1, 23, 1, 3, v, 3);
            }
            dueStatus(check, "neither is right", command(master, 2, function, 4, 5), 4);
        }
    }

    private static void wrongBytes(Check check) {
        int[][] wrong = {{}, {12, 1, 23, 1, 2}, {12, 1, 23, 1, 2, 3, 0}, {13, 1, 23, 1, 2, 3}, {12, 2, 23, 1, 2, 3},
            {12, 1, 22, 1, 2, 3}, {12, 1, 23, 2, 2, 3}, {12, 1, 23, 2, 2, 3, 1, 3}, {12, 1, 23, 0}};
        for (int function = SELECT; function <= DIRECT; function++) {
            for (int[] bytes : wrong) {
                Master master = new Master(new OutStation());
                check.due("function " + function + " with " + Arrays.toString(bytes),
                    master.request(Master.join(new int[] {192, function}, bytes)), 192, 129, 128, 4);
                check.due("the output", master.station.point(2, 2), 0);
            }
        }
    }
}
