/** Promise 1: a new object. */
public final class Promise01NewObjectTest {
    public static void main(String[] args) {
        Check.run(Promise01NewObjectTest.class);
    }

    @Holds({"All is 0", "all 0 at first."})
    static void allIsZero(Check check) {
        OutStation x = new OutStation();
        for (int kind = 0; kind < 3; kind++) {
            for (int p = 0; p < (kind == 2 ? 4 : 8); p++) {
                check.due("point(" + kind + ", " + p + ")", x.point(kind, p), 0);
            }
        }
        check.due("events(0)", x.events(0), 0);
        check.due("events(1)", x.events(1), 0);
    }

    @Holds({"restart is on", "RESTART is on at first."})
    static void restartAloneIsOn(Check check) {
        check.due("the signs of the first answer", new Master().read(), 192, 129, 128, 0);
    }

    @Holds("nothing heard.")
    static void nothingIsHeardSentOrTold(Check check) {
        OutStation x = new OutStation();
        check.due("sent(-1)", x.sent(-1), 0);
        check.badIndex("sent(0)", () -> x.sent(0));
        check.badIndex("told(0)", () -> x.told(0));
        check.due("the row behind a first byte", x.hear(5, 1), 1);
        for (int number = 0; number < 64; number++) {
            Master zero = new Master(new OutStation(), 0);
            zero.bringPart(Master.LAST + number, 192, 1);
            check.silent("part " + number + " that goes on from none", zero.answer());
        }
    }

    @Holds("All is 0, restart is on, nothing heard.")
    static void nothingIsSelectedOrAnswered(Check check) {
        for (int number = 0; number < 16; number++) {
            check.due("operate", new Master().statusOf(number, Master.OPERATE, 0, Master.ON), 2);
            check.due("operate off", new Master().statusOf(number, Master.OPERATE, 0, Master.OFF), 2);
        }
        Master full = Master.withEvents(7, 0);
        full.confirm(0);
        check.due("a confirm before any answer takes nothing", full.station.events(0), 6);
        check.due("and leaves overflow on", full.secondSigns(), Master.OVERFLOW);
    }

    @Holds("All is 0, restart is on, nothing heard.")
    static void theNextObjectIsAsNew(Check check) {
        Master one = Master.withEvents(8, 8);
        one.request(192, 2, 80, 1, 0, 7, 7, 0);
        one.command(1, Master.DIRECT, 0, Master.ON);
        one.station.ask(1, 1);
        one.bring(5, 100);
        OutStation other = new OutStation();
        check.due("points and outputs", other.point(0, 0) + other.point(1, 0) + other.point(2, 0), 0);
        check.due("events", other.events(0) + other.events(1), 0);
        check.badIndex("told(0)", () -> other.told(0));
        check.due("the row", other.hear(5, 1), 1);
        check.due("signs", new Master().read(), 192, 129, 128, 0);
    }
}
