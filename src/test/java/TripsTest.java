/** Promises 1 to 8: a new object, trips, modes, and the standard altitude. */
public final class TripsTest {
    private static final Check CHECK = new Check("TripsTest");
    private static final Class<IllegalArgumentException> ARGUMENT = IllegalArgumentException.class;

    public static void main(String[] args) {
        newObject();
        objectsAreApart();
        travel();
        travelIsRefused();
        pressuresOnTheWay();
        setStation();
        stationMode();
        stationModeOutOfReach();
        switchesMoveTheRightAltitudes();
        standard();
        CHECK.end();
    }

    private static void newObject() {
        AltimeterWatch x = new AltimeterWatch();
        CHECK.due("new isStation()", x.isStation(), false);
        CHECK.due("new pressure()", x.pressure(), 10132);
        CHECK.due("new altitude()", x.altitude(), 0);
        CHECK.due("new minutes()", x.minutes(), 0);
        CHECK.due("new sea()", x.sea(), 10132);
        CHECK.due("new drift()", x.drift(), 0);
        CHECK.due("new calibrations()", x.calibrations(), 0);
        CHECK.due("new ascent()", x.ascent(), 0);
        CHECK.due("new descent()", x.descent(), 0);
        CHECK.due("new base()", x.base(), 0);
        CHECK.due("new marks()", x.marks(), 0);
        CHECK.due("new logged()", x.logged(), 0);
        CHECK.due("new fall()", x.fall(), 0);
        CHECK.due("new isAlarm()", x.isAlarm(), false);
        CHECK.due("new alarms()", x.alarms(), 0);
        CHECK.due("new climbShare()", x.climbShare(), 0.5);
        CHECK.due("new firstError()", x.firstError(), 0);
        CHECK.due("new savedStates()", x.savedStates(), 0);
        CHECK.due("new clearText()", x.clearText(), 0);
        CHECK.due("new setThreshold(60)", x.setThreshold(60), 50);
        CHECK.due("new setAlarm(60)", x.setAlarm(60), 40);
    }

    private static void objectsAreApart() {
        AltimeterWatch x = new AltimeterWatch();
        AltimeterWatch y = new AltimeterWatch();
        x.setMark();
        x.travel(3, 9000);
        x.append('s');
        x.store(0);
        CHECK.due("other pressure()", y.pressure(), 10132);
        CHECK.due("other marks()", y.marks(), 0);
        CHECK.due("other savedStates()", y.savedStates(), 0);
        CHECK.due("other clearText()", y.clearText(), 0);
        CHECK.refused("other recall(0)", y, IllegalStateException.class, () -> y.recall(0));
    }

    private static void travel() {
        AltimeterWatch x = new AltimeterWatch();
        CHECK.due("travel(1, 10032)", x.travel(1, 10032), 830);
        CHECK.due("pressure()", x.pressure(), 10032);
        CHECK.due("altitude()", x.altitude(), 830);
        CHECK.due("minutes()", x.minutes(), 1);
        CHECK.due("travel(120, 5000)", x.travel(120, 5000), 52859);
        CHECK.due("minutes()", x.minutes(), 121);
        CHECK.due("travel(120, 11000)", x.travel(120, 11000), -7204);
        CHECK.due("pressure()", x.pressure(), 11000);
        CHECK.due("minutes()", x.minutes(), 241);
        CHECK.due("travel(7, 11000)", x.travel(7, 11000), -7204);
        CHECK.due("minutes()", x.minutes(), 248);
        CHECK.due("savedStates()", x.savedStates(), 4);
        x.undo();
        CHECK.due("minutes() after undo()", x.minutes(), 241);
    }

    private static void travelIsRefused() {
        AltimeterWatch x = new AltimeterWatch();
        x.travel(5, 10000);
        for (int minutes : new int[] {0, 121, -1, Integer.MIN_VALUE, Integer.MAX_VALUE}) {
            CHECK.refused("travel(" + minutes + ", 9000)", x, ARGUMENT, () -> x.travel(minutes, 9000));
        }
        for (int pressure : new int[] {4999, 11001, 0, -1, Integer.MIN_VALUE, Integer.MAX_VALUE}) {
            CHECK.refused("travel(5, " + pressure + ")", x, ARGUMENT, () -> x.travel(5, pressure));
        }
    }

    private static void pressuresOnTheWay() {
        AltimeterWatch x = new AltimeterWatch();
        x.setStation(true);
        x.travel(3, 10122);
        // 10129, 10126, 10122: the divisions round toward zero
        CHECK.due("fall() of a falling trip", x.fall(), 7);
        x.setStation(false);
        x.setStation(true);
        x.travel(3, 10132);
        x.travel(1, 10129);
        // 10125, 10128, 10132, 10129
        CHECK.due("fall() of a rising trip", x.fall(), 3);
        AltimeterWatch y = new AltimeterWatch();
        y.travel(3, 10122);
        // 24 and 49 are below the threshold of 50
        CHECK.due("base() at the third minute", y.base(), 83);
        CHECK.due("ascent() at the third minute", y.ascent(), 83);
    }

    private static void setStation() {
        AltimeterWatch x = new AltimeterWatch();
        CHECK.due("setStation(false)", x.setStation(false), false);
        CHECK.due("savedStates()", x.savedStates(), 1);
        CHECK.due("setStation(true)", x.setStation(true), false);
        CHECK.due("isStation()", x.isStation(), true);
        CHECK.due("setStation(true)", x.setStation(true), true);
        CHECK.due("savedStates()", x.savedStates(), 3);
        CHECK.due("setStation(false)", x.setStation(false), true);
        CHECK.due("isStation()", x.isStation(), false);
        x.undo();
        CHECK.due("isStation() after undo()", x.isStation(), true);
    }

    private static void stationMode() {
        AltimeterWatch x = new AltimeterWatch();
        x.travel(1, 9132);
        x.setStation(true);
        CHECK.due("travel(10, 9032) in the station mode", x.travel(10, 9032), 8699);
        // Of 9570 there are 871 to be taken away with 10027, and 863 with 10028: 8699 is nearer to 8700 than 8707.
        CHECK.due("sea()", x.sea(), 10027);
        CHECK.due("ascent()", x.ascent(), 8700);
        CHECK.due("descent()", x.descent(), 0);
        CHECK.due("base()", x.base(), 8700);
        CHECK.due("logged()", x.logged(), 10);
        CHECK.due("minutes()", x.minutes(), 11);
        CHECK.due("travel(10, 9132) back", x.travel(10, 9132), 8700);
        CHECK.due("sea() back", x.sea(), 10132);
    }

    private static void stationModeOutOfReach() {
        AltimeterWatch x = new AltimeterWatch();
        x.setStation(true);
        CHECK.due("travel(1, 5000) at 0", x.travel(1, 5000), 52859 - 9848);
        CHECK.due("sea()", x.sea(), 9000);
        CHECK.due("travel(1, 11000) at 0", x.travel(1, 11000), -7204 + 5544);
        CHECK.due("sea()", x.sea(), 10800);
        // The station altitude is still 0.
        CHECK.due("travel(1, 10000) at 0", x.travel(1, 10000), 0);
        CHECK.due("sea()", x.sea(), 10000);
    }

    private static void switchesMoveTheRightAltitudes() {
        AltimeterWatch x = new AltimeterWatch();
        x.setThreshold(500);
        x.travel(1, 10082);
        CHECK.due("base()", x.base(), 0);
        x.setStation(true);
        CHECK.due("base() when the station mode is switched on", x.base(), 0);
        x.travel(1, 10032);
        CHECK.due("altitude() at the station", x.altitude(), 415);
        x.setStation(true);
        x.setStation(false);
        CHECK.due("base() when the moving mode is switched on", x.base(), 415);
        x.travel(1, 10022);
        x.setStation(false);
        CHECK.due("base() when the mode stays", x.base(), 415);
        CHECK.due("logged() in the moving mode", x.logged(), 0);
        CHECK.due("ascent()", x.ascent(), 0);
    }

    private static void standard() {
        AltimeterWatch x = new AltimeterWatch();
        x.setSea(10000);
        CHECK.due("standard(10132)", x.standard(10132), 0);
        CHECK.due("standard(10131)", x.standard(10131), 8);
        CHECK.due("standard(10133)", x.standard(10133), -8);
        CHECK.due("standard(10134)", x.standard(10134), -16);
        CHECK.due("standard(10032)", x.standard(10032), 830);
        CHECK.due("standard(9883)", x.standard(9883), 2066);
        CHECK.due("standard(9882)", x.standard(9882), 2100);
        CHECK.due("standard(9132)", x.standard(9132), 8700);
        CHECK.due("standard(5000)", x.standard(5000), 52859);
        CHECK.due("standard(11000)", x.standard(11000), -7204);
        for (int pressure : new int[] {4999, 11001, 0, -10132, Integer.MIN_VALUE, Integer.MAX_VALUE}) {
            CHECK.refused("standard(" + pressure + ")", x, ARGUMENT, () -> x.standard(pressure));
        }
        CHECK.due("savedStates() after standard()", x.savedStates(), 1);
    }
}
