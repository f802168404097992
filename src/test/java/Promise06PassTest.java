import java.util.Arrays;

/** Promise 6: time goes by, and what is selected gets too old. */
public final class Promise06PassTest {
    public static void main(String[] args) {
        Check.run(Promise06PassTest.class);
    }

    private static Master selected() {
        Master master = new Master();
        master.command(3, Master.SELECT, 1, Master.ON);
        return master;
    }

    private static void dueBehind(Check check, int status, int... passes) {
        Master master = selected();
        for (int ticks : passes) {
            master.station.pass(ticks);
        }
        check.due("operate behind " + Arrays.toString(passes), master.command(4, Master.OPERATE, 1, Master.ON),
            Master.answerOf(196, 128, 0, 12, 1, 23, 1, 1, 3, status));
        check.due("the output", master.station.point(2, 1), status == 0 ? 1 : 0);
    }

    @Holds({"1 it was selected more than 10 ticks ago;", "Some time goes by, 1 .. 100 ticks."})
    static void everyNumberOfTicks(Check check) {
        dueBehind(check, 0);
        for (int ticks = 1; ticks <= 100; ticks++) {
            dueBehind(check, ticks <= 10 ? 0 : 1, ticks);
        }
    }

    @Holds({"1 it was selected more than 10 ticks ago;", "Some time goes by,"})
    static void ticksComeTogether(Check check) {
        dueBehind(check, 0, 5, 5);
        dueBehind(check, 1, 5, 6);
        dueBehind(check, 0, 1, 1, 1, 1, 1, 1, 1, 1, 1, 1);
        dueBehind(check, 1, 1, 1, 1, 1, 1, 1, 1, 1, 1, 1, 1);
        dueBehind(check, 1, 10, 1);
        dueBehind(check, 1, Master.times(400, 100));
    }

    @Holds("1 it was selected more than 10 ticks ago;")
    static void timeBeforeSelectingIsOfNoMatter(Check check) {
        Master master = new Master();
        master.station.pass(100);
        master.command(0, Master.SELECT, 1, Master.ON);
        master.station.pass(10);
        check.due("time before it", master.statusOf(1, Master.OPERATE, 1, Master.ON), 0);
        master.command(2, Master.SELECT, 1, Master.ON);
        master.station.pass(9);
        master.command(2, Master.SELECT, 1, Master.ON);
        master.station.pass(9);
        check.due("selected anew", master.statusOf(3, Master.OPERATE, 1, Master.ON), 0);
        master.station.pass(11);
        check.due("nothing is selected", master.statusOf(4, Master.OPERATE, 1, Master.ON), 2);
    }

    @Holds("Some time goes by, 1 .. 100 ticks.")
    static void nothingElseChanges(Check check) {
        Master master = Master.withEvents(1, 1);
        master.read(60, 2, 6);
        master.bringPart(Master.FIRST, 192);
        master.bring(5, 100);
        master.station.pass(100);
        check.due("the row", master.station.hear(5, 1), 1);
        master.bringPart(Master.LAST + 1, 0);
        check.due("the fragment and the confirm", master.station.events(0), 0);
        check.due("events stay", master.station.events(1), 1);
    }

    @Holds("IllegalArgumentException: it is not so.")
    static void refusedTicks(Check check) {
        Master master = selected();
        for (int ticks : new int[] {Integer.MIN_VALUE, -100, -1, 0, 101, 102, 256, Integer.MAX_VALUE}) {
            check.badArgument("pass(" + ticks + ")", () -> master.station.pass(ticks));
        }
        master.station.pass(10);
        check.due("refused ticks do not pass", master.statusOf(4, Master.OPERATE, 1, Master.ON), 0);
    }
}
