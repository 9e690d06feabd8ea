/** The boundary cases of promises 23 to 27, a test for each sentence: the weather log and the storm alarm. */
public final class EdgesOfWeatherTest {
    private static final Check CHECK = new Check("EdgesOfWeatherTest");
    private static final Class<IllegalArgumentException> ARGUMENT = IllegalArgumentException.class;

    public static void main(String[] args) {
        CHECK.sentence("The alarm limit is 10 to 200, at first 40.", EdgesOfWeatherTest::limitAtFirst);
        CHECK.sentence("setAlarm: limit: 10 to 200", EdgesOfWeatherTest::limitRange);
        CHECK.sentence("Returns the previous limit.", EdgesOfWeatherTest::previousLimit);
        CHECK.sentence("The weather log contains the latest pressures, at most 60 of them",
            EdgesOfWeatherTest::sixtyPressures);
        CHECK.sentence("when one more is added, the oldest one is removed", EdgesOfWeatherTest::oneMorePressure);
        CHECK.sentence("It becomes empty when the station mode is switched on", EdgesOfWeatherTest::emptyWhenSwitchedOn);
        CHECK.sentence("or off", EdgesOfWeatherTest::emptyWhenSwitchedOff);
        CHECK.sentence("The fall of the pressure is the greatest pressure in the log minus the latest one",
            EdgesOfWeatherTest::fall);
        CHECK.sentence("it is 0 if the log is empty", EdgesOfWeatherTest::fallOfAnEmptyLog);
        CHECK.sentence("There is an alarm if the fall is at least the alarm limit.", EdgesOfWeatherTest::atLeastTheLimit);
        CHECK.sentence("An alarm begins when there is one after a minute", EdgesOfWeatherTest::beginsAfterAMinute);
        CHECK.sentence("and there was none after the minute before", EdgesOfWeatherTest::goesOn);
        CHECK.sentence("by the alarm limit of that time", EdgesOfWeatherTest::limitOfThatTime);
        CHECK.sentence("(or that minute was before the station mode was switched on)",
            EdgesOfWeatherTest::beforeTheModeWasSwitchedOn);
        CHECK.sentence("Returns the number of alarms that began so far.", EdgesOfWeatherTest::alarms);
        CHECK.end();
    }

    private static AltimeterWatch logging(int... pressures) {
        AltimeterWatch x = new AltimeterWatch();
        x.setStation(true);
        for (int pressure : pressures) {
            x.travel(1, pressure);
        }
        return x;
    }

    private static void limitAtFirst() {
        CHECK.due("isAlarm() at 39", logging(10132, 10093).isAlarm(), false);
        CHECK.due("isAlarm() at 40", logging(10132, 10092).isAlarm(), true);
        CHECK.due("setAlarm(40)", new AltimeterWatch().setAlarm(40), 40);
    }

    private static void limitRange() {
        AltimeterWatch x = logging(10132, 10123);
        x.setAlarm(10);
        CHECK.due("isAlarm() at 9", x.isAlarm(), false);
        x.travel(1, 10122);
        CHECK.due("isAlarm() at 10", x.isAlarm(), true);
        x.setAlarm(200);
        x.travel(1, 9933);
        CHECK.due("isAlarm() at 199", x.isAlarm(), false);
        x.travel(1, 9932);
        CHECK.due("isAlarm() at 200", x.isAlarm(), true);
        CHECK.refused("setAlarm(9)", x, ARGUMENT, () -> x.setAlarm(9));
        CHECK.refused("setAlarm(201)", x, ARGUMENT, () -> x.setAlarm(201));
        CHECK.due("setAlarm(40) after the refused ones", x.setAlarm(40), 200);
    }

    private static void previousLimit() {
        AltimeterWatch x = new AltimeterWatch();
        CHECK.due("setAlarm(10)", x.setAlarm(10), 40);
        CHECK.due("setAlarm(200)", x.setAlarm(200), 10);
        CHECK.due("setAlarm(200)", x.setAlarm(200), 200);
        x.undo();
        x.undo();
        CHECK.due("setAlarm(40) after undo()", x.setAlarm(40), 10);
    }

    private static void sixtyPressures() {
        AltimeterWatch x = logging(10132);
        CHECK.due("logged() after 1", x.logged(), 1);
        x.travel(58, 10100);
        CHECK.due("logged() after 59", x.logged(), 59);
        x.travel(1, 10100);
        CHECK.due("logged() after 60", x.logged(), 60);
        CHECK.due("fall() after 60", x.fall(), 32);
        x.travel(1, 10100);
        CHECK.due("logged() after 61", x.logged(), 60);
        x.travel(120, 10100);
        CHECK.due("logged() after 181", x.logged(), 60);
    }

    private static void oneMorePressure() {
        AltimeterWatch x = logging(10132, 10122, 10112);
        x.travel(57, 10112);
        CHECK.due("fall() of 60", x.fall(), 20);
        x.travel(1, 10112);
        CHECK.due("fall() of 61", x.fall(), 10);
        x.travel(1, 10112);
        CHECK.due("fall() of 62", x.fall(), 0);
        x.travel(1, 10152);
        x.travel(1, 10112);
        x.travel(58, 10112);
        CHECK.due("fall() 59 minutes later", x.fall(), 40);
        x.travel(1, 10112);
        CHECK.due("fall() 60 minutes later", x.fall(), 0);
    }

    private static void emptyWhenSwitchedOn() {
        AltimeterWatch x = logging(10132, 10032);
        x.setStation(false);
        x.travel(30, 9900);
        x.setStation(true);
        CHECK.due("logged()", x.logged(), 0);
        x.travel(1, 9800);
        CHECK.due("logged() after a minute", x.logged(), 1);
        CHECK.due("fall() after a minute", x.fall(), 0);
        Check.typed(x, "s;s;1>9700").run();
        CHECK.due("logged() after a text", x.logged(), 1);
        CHECK.due("fall() after a text", x.fall(), 0);
    }

    private static void emptyWhenSwitchedOff() {
        AltimeterWatch x = logging(10132, 10032);
        x.setStation(false);
        CHECK.due("logged()", x.logged(), 0);
        CHECK.due("isAlarm()", x.isAlarm(), false);
        AltimeterWatch y = logging(10132, 10032);
        Check.typed(y, "s").run();
        CHECK.due("logged() after a text", y.logged(), 0);
        AltimeterWatch z = logging(10132, 10032);
        z.setStation(true);
        CHECK.due("logged() when it is not switched", z.logged(), 2);
    }

    private static void fall() {
        CHECK.due("fall() of one pressure", logging(10100).fall(), 0);
        CHECK.due("fall() when the latest is the greatest", logging(10100, 10101).fall(), 0);
        CHECK.due("fall() when the first is the greatest", logging(10101, 10100).fall(), 1);
        CHECK.due("fall() when one between is the greatest", logging(10100, 10140, 10090, 10110).fall(), 30);
        CHECK.due("fall() from end to end", logging(11000, 5000).fall(), 6000);
    }

    private static void fallOfAnEmptyLog() {
        AltimeterWatch x = new AltimeterWatch();
        CHECK.due("fall() of a new watch", x.fall(), 0);
        x.travel(1, 5000);
        CHECK.due("fall() in the moving mode", x.fall(), 0);
        x.setStation(true);
        CHECK.due("fall() without a minute", x.fall(), 0);
        CHECK.due("isAlarm() without a minute", x.isAlarm(), false);
    }

    private static void atLeastTheLimit() {
        AltimeterWatch x = logging(10132, 10102);
        x.setAlarm(31);
        CHECK.due("isAlarm() at 30 with 31", x.isAlarm(), false);
        x.setAlarm(30);
        CHECK.due("isAlarm() at 30 with 30", x.isAlarm(), true);
        x.setAlarm(29);
        CHECK.due("isAlarm() at 30 with 29", x.isAlarm(), true);
        x.undo();
        x.undo();
        CHECK.due("isAlarm() after undo()", x.isAlarm(), false);
    }

    private static void beginsAfterAMinute() {
        AltimeterWatch x = logging(10132, 10102);
        CHECK.due("alarms() at 30", x.alarms(), 0);
        x.setAlarm(30);
        CHECK.due("isAlarm() by another limit", x.isAlarm(), true);
        CHECK.due("alarms() without a minute", x.alarms(), 0);
        x.travel(1, 10102);
        CHECK.due("alarms() after a minute", x.alarms(), 1);
        AltimeterWatch y = logging(10172);
        y.setAlarm(41);
        y.travel(1, 10132);
        // It begins at 10131, two minutes on, and ends when 10172 leaves the log.
        y.travel(120, 10072);
        CHECK.due("isAlarm() after the trip", y.isAlarm(), false);
        CHECK.due("alarms() that began in the middle of the trip", y.alarms(), 1);
    }

    private static void goesOn() {
        AltimeterWatch x = logging(10132, 10092, 10082);
        CHECK.due("alarms() when it goes on", x.alarms(), 1);
        x.travel(10, 10052);
        CHECK.due("alarms() when it goes on for ten minutes", x.alarms(), 1);
        x.travel(1, 10093);
        CHECK.due("isAlarm() at 39", x.isAlarm(), false);
        x.travel(1, 10092);
        CHECK.due("alarms() when one begins again", x.alarms(), 2);
    }

    private static void limitOfThatTime() {
        AltimeterWatch lowered = logging(10132, 10102);
        lowered.setAlarm(20);
        lowered.travel(1, 10102);
        CHECK.due("alarms() when there was none by 40", lowered.alarms(), 1);
        AltimeterWatch raised = logging(10132, 10092);
        raised.setAlarm(50);
        raised.travel(1, 10082);
        CHECK.due("alarms() when there was one by 40, but not by 50", raised.alarms(), 1);
        raised.setAlarm(51);
        raised.travel(1, 10082);
        raised.setAlarm(50);
        raised.travel(1, 10082);
        CHECK.due("alarms() when there was none by 51", raised.alarms(), 2);
        AltimeterWatch between = logging(10132, 10092);
        between.setAlarm(200);
        between.setAlarm(40);
        between.travel(1, 10092);
        CHECK.due("alarms() when no minute passed with 200", between.alarms(), 1);
    }

    private static void beforeTheModeWasSwitchedOn() {
        AltimeterWatch x = logging(10132, 10092);
        x.setStation(false);
        x.setStation(true);
        x.travel(1, 10092);
        CHECK.due("alarms() with one pressure", x.alarms(), 1);
        x.travel(1, 10052);
        CHECK.due("alarms() after the mode was switched", x.alarms(), 2);
        x.setStation(true);
        x.travel(1, 10052);
        CHECK.due("alarms() when the mode was not switched", x.alarms(), 2);
    }

    private static void alarms() {
        AltimeterWatch x = new AltimeterWatch();
        CHECK.due("alarms()", x.alarms(), 0);
        x.travel(1, 5000);
        CHECK.due("alarms() in the moving mode", x.alarms(), 0);
        AltimeterWatch y = logging(10132, 10032, 10132, 10032);
        CHECK.due("alarms() after two", y.alarms(), 2);
        y.setStation(false);
        CHECK.due("alarms() when the mode was switched", y.alarms(), 2);
        y.undo();
        y.undo();
        CHECK.due("alarms() after undo()", y.alarms(), 1);
    }
}
