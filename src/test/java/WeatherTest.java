/** Promises 23 to 27: the weather log and the storm alarm. */
public final class WeatherTest {
    private static final Check CHECK = new Check("WeatherTest");

    public static void main(String[] args) {
        setAlarm();
        logged();
        fall();
        oldPressuresLeave();
        alarmAtTheLimit();
        alarmsBegin();
        limitOfThatTime();
        alarmBeforeTheModeWasSwitchedOn();
        undoneAlarm();
        CHECK.end();
    }

    private static AltimeterWatch station() {
        AltimeterWatch x = new AltimeterWatch();
        x.setStation(true);
        return x;
    }

    private static void setAlarm() {
        AltimeterWatch x = new AltimeterWatch();
        CHECK.due("setAlarm(10)", x.setAlarm(10), 40);
        CHECK.due("setAlarm(200)", x.setAlarm(200), 10);
        CHECK.due("setAlarm(200)", x.setAlarm(200), 200);
        CHECK.due("savedStates()", x.savedStates(), 3);
        for (int limit : new int[] {9, 201, 0, -10, Integer.MIN_VALUE, Integer.MAX_VALUE}) {
            CHECK.refused("setAlarm(" + limit + ")", x, IllegalArgumentException.class, () -> x.setAlarm(limit));
        }
        x.undo();
        x.undo();
        CHECK.due("setAlarm(20) after undo()", x.setAlarm(20), 10);
    }

    private static void logged() {
        AltimeterWatch x = new AltimeterWatch();
        x.travel(5, 10000);
        CHECK.due("logged() in the moving mode", x.logged(), 0);
        x.setStation(true);
        CHECK.due("logged() when the station mode is switched on", x.logged(), 0);
        x.travel(59, 10000);
        CHECK.due("logged()", x.logged(), 59);
        x.travel(1, 10000);
        CHECK.due("logged()", x.logged(), 60);
        x.travel(1, 10000);
        CHECK.due("logged()", x.logged(), 60);
        x.travel(120, 10000);
        CHECK.due("logged()", x.logged(), 60);
        x.setStation(true);
        x.setAlarm(50);
        x.calibrate(100);
        CHECK.due("logged() when the mode stays", x.logged(), 60);
        x.setStation(false);
        CHECK.due("logged() when the station mode is switched off", x.logged(), 0);
    }

    private static void fall() {
        AltimeterWatch x = station();
        x.travel(1, 10050);
        CHECK.due("fall() with one pressure", x.fall(), 0);
        x.travel(1, 10030);
        CHECK.due("fall()", x.fall(), 20);
        x.travel(1, 10040);
        CHECK.due("fall() when it rises", x.fall(), 10);
        x.travel(1, 10060);
        CHECK.due("fall() at the greatest one", x.fall(), 0);
        x.travel(2, 10040);
        CHECK.due("fall() in a trip of two minutes", x.fall(), 20);
        x.setStation(false);
        CHECK.due("fall() with an empty log", x.fall(), 0);
        CHECK.due("pressure()", x.pressure(), 10040);
    }

    private static void oldPressuresLeave() {
        AltimeterWatch x = station();
        x.travel(1, 10132);
        x.travel(1, 10120);
        x.travel(1, 10102);
        x.travel(57, 10102);
        CHECK.due("fall() with 60 pressures", x.fall(), 30);
        x.travel(1, 10102);
        CHECK.due("fall() with 61 pressures", x.fall(), 18);
        x.travel(1, 10102);
        CHECK.due("fall() with 62 pressures", x.fall(), 0);
    }

    private static void alarmAtTheLimit() {
        AltimeterWatch x = station();
        x.travel(1, 10132);
        x.travel(1, 10093);
        CHECK.due("isAlarm() at 39", x.isAlarm(), false);
        CHECK.due("alarms() at 39", x.alarms(), 0);
        x.travel(1, 10092);
        CHECK.due("isAlarm() at 40", x.isAlarm(), true);
        CHECK.due("alarms() at 40", x.alarms(), 1);
        x.setAlarm(41);
        CHECK.due("isAlarm() with the limit 41", x.isAlarm(), false);
        x.setAlarm(10);
        CHECK.due("isAlarm() with the limit 10", x.isAlarm(), true);
        CHECK.due("alarms() without a minute", x.alarms(), 1);
        x.setStation(false);
        CHECK.due("isAlarm() in the moving mode", x.isAlarm(), false);
        x.travel(1, 9000);
        CHECK.due("isAlarm() in the moving mode", x.isAlarm(), false);
        CHECK.due("alarms() in the moving mode", x.alarms(), 1);
    }

    private static void alarmsBegin() {
        AltimeterWatch x = station();
        x.travel(1, 10132);
        x.travel(1, 10082);
        CHECK.due("alarms() after the first one", x.alarms(), 1);
        x.travel(3, 10052);
        CHECK.due("alarms() while it lasts", x.alarms(), 1);
        x.travel(1, 10122);
        CHECK.due("isAlarm() when it rose", x.isAlarm(), false);
        x.travel(1, 10082);
        CHECK.due("alarms() after the second one", x.alarms(), 2);
        x.travel(60, 10082);
        CHECK.due("isAlarm() when the log forgot", x.isAlarm(), false);
        x.travel(2, 10002);
        CHECK.due("alarms() after the third one", x.alarms(), 3);
        x.travel(1, 10082);
        x.travel(1, 10022);
        CHECK.due("alarms() after the fourth one", x.alarms(), 4);
    }

    private static void limitOfThatTime() {
        AltimeterWatch x = station();
        x.travel(1, 10132);
        x.travel(1, 10102);
        CHECK.due("alarms() at 30 with the limit 40", x.alarms(), 0);
        x.setAlarm(20);
        CHECK.due("isAlarm() with the limit 20", x.isAlarm(), true);
        x.travel(1, 10102);
        CHECK.due("alarms() at 30 with the limit 20 since then", x.alarms(), 1);
        x.setAlarm(100);
        CHECK.due("isAlarm() with the limit 100", x.isAlarm(), false);
        x.setAlarm(20);
        x.travel(1, 10102);
        CHECK.due("alarms() when there was one by the limit of that time", x.alarms(), 1);
        x.setAlarm(100);
        x.travel(1, 10012);
        CHECK.due("isAlarm() at 120 with the limit 100", x.isAlarm(), true);
        CHECK.due("alarms() when the limit was raised in between", x.alarms(), 1);
        x.setAlarm(200);
        x.travel(1, 10012);
        x.setAlarm(100);
        x.travel(1, 10012);
        CHECK.due("alarms() when there was a minute without one", x.alarms(), 2);
    }

    private static void alarmBeforeTheModeWasSwitchedOn() {
        AltimeterWatch x = station();
        x.travel(1, 10132);
        x.travel(1, 10032);
        CHECK.due("alarms()", x.alarms(), 1);
        x.setStation(false);
        x.setStation(true);
        x.setAlarm(10);
        x.travel(1, 10032);
        CHECK.due("alarms() with one pressure", x.alarms(), 1);
        x.travel(1, 10022);
        CHECK.due("alarms() after the mode was switched", x.alarms(), 2);
        x.setStation(true);
        x.travel(1, 10022);
        CHECK.due("alarms() when the mode stayed", x.alarms(), 2);
    }

    private static void undoneAlarm() {
        AltimeterWatch x = station();
        x.travel(1, 10132);
        x.travel(1, 10032);
        x.undo();
        CHECK.due("alarms() after undo()", x.alarms(), 0);
        CHECK.due("isAlarm() after undo()", x.isAlarm(), false);
        x.travel(1, 10032);
        CHECK.due("alarms() done again", x.alarms(), 1);
        x.setStation(false);
        x.undo();
        CHECK.due("isAlarm() after undo() of the switch", x.isAlarm(), true);
        x.travel(1, 10032);
        CHECK.due("alarms() when the alarm lasts", x.alarms(), 1);
    }
}
