/** The boundary cases of promises 1 to 8, a test for each sentence: the air, the standard altitude, modes and trips. */
public final class EdgesOfTripsTest {
    private static final Check CHECK = new Check("EdgesOfTripsTest");
    private static final Class<IllegalArgumentException> ARGUMENT = IllegalArgumentException.class;

    public static void main(String[] args) {
        CHECK.sentence("NONE = -1: There is no such number.", EdgesOfTripsTest::none);
        CHECK.sentence("Creates a watch in the moving mode, without marks.", EdgesOfTripsTest::newWatch);
        CHECK.sentence("The air has a pressure from 5000 to 11000, at first 10132.", EdgesOfTripsTest::airAtFirst);
        CHECK.sentence("All divisions round toward zero.", EdgesOfTripsTest::divisions);
        CHECK.sentence("The standard altitude ... is d * (83 + d / 250) / 10 ... if p is at most 10132",
            EdgesOfTripsTest::standardUpTo10132);
        CHECK.sentence("otherwise it is d * 83 / 10 (which is negative)", EdgesOfTripsTest::standardAbove10132);
        CHECK.sentence("standard: pressure: 5000 to 11000", EdgesOfTripsTest::standardRange);
        CHECK.sentence("The altitude is the standard altitude of the pressure of the air minus the standard altitude of "
            + "the sea setting.", EdgesOfTripsTest::altitude);
        CHECK.sentence("at first in the moving mode", EdgesOfTripsTest::movingAtFirst);
        CHECK.sentence("When the station mode is switched on, the station altitude is the present altitude.",
            EdgesOfTripsTest::stationAltitude);
        CHECK.sentence("travel: minutes: 1 to 120", EdgesOfTripsTest::travelMinutes);
        CHECK.sentence("travel: pressure: 5000 to 11000, the final pressure", EdgesOfTripsTest::travelPressure);
        CHECK.sentence("the pressure after k of its minutes is a + (b - a) * k / n", EdgesOfTripsTest::onTheWay);
        CHECK.sentence("1. In the station mode, the sea setting is adjusted to the station altitude.",
            EdgesOfTripsTest::seaInTheStationModeOnly);
        CHECK.sentence("2. In the moving mode, the climb counter takes the altitude",
            EdgesOfTripsTest::climbInTheMovingModeOnly);
        CHECK.sentence("3. In the station mode, the pressure is added to the weather log",
            EdgesOfTripsTest::logInTheStationModeOnly);
        CHECK.sentence("Returns whether it was in the station mode before the call.", EdgesOfTripsTest::modeBefore);
        CHECK.sentence("Nothing changes (but the state is saved) if the watch is in this mode already.",
            EdgesOfTripsTest::modeAlready);
        CHECK.sentence("Returns the number of minutes of all trips so far.", EdgesOfTripsTest::minutes);
        CHECK.end();
    }

    private static void none() {
        CHECK.due("NONE", AltimeterWatch.NONE, -1);
    }

    private static void newWatch() {
        AltimeterWatch x = new AltimeterWatch();
        CHECK.due("isStation()", x.isStation(), false);
        CHECK.due("marks()", x.marks(), 0);
    }

    private static void airAtFirst() {
        AltimeterWatch x = new AltimeterWatch();
        CHECK.due("pressure()", x.pressure(), 10132);
        x.travel(1, 5000);
        CHECK.due("pressure() after travel(1, 5000)", x.pressure(), 5000);
        x.travel(1, 11000);
        CHECK.due("pressure() after travel(1, 11000)", x.pressure(), 11000);
    }

    private static void divisions() {
        AltimeterWatch x = new AltimeterWatch();
        // 8.3, 16.6, 24.9; the same below zero; 249 / 250 is 0 and 499 / 250 is 1
        CHECK.due("standard(10131)", x.standard(10131), 8);
        CHECK.due("standard(10130)", x.standard(10130), 16);
        CHECK.due("standard(10129)", x.standard(10129), 24);
        CHECK.due("standard(10133)", x.standard(10133), -8);
        CHECK.due("standard(10134)", x.standard(10134), -16);
        CHECK.due("standard(10135)", x.standard(10135), -24);
        CHECK.due("standard(9883)", x.standard(9883), 2066);
        CHECK.due("standard(9633)", x.standard(9633), 4191);
    }

    private static void standardUpTo10132() {
        AltimeterWatch x = new AltimeterWatch();
        CHECK.due("standard(10132)", x.standard(10132), 0);
        CHECK.due("standard(10131)", x.standard(10131), 8);
        CHECK.due("standard(10122)", x.standard(10122), 83);
        CHECK.due("standard(9883)", x.standard(9883), 2066);
        CHECK.due("standard(9882)", x.standard(9882), 2100);
        CHECK.due("standard(9881)", x.standard(9881), 2108);
        CHECK.due("standard(9632)", x.standard(9632), 4250);
        CHECK.due("standard(5133)", x.standard(5133), 50989);
        CHECK.due("standard(5132)", x.standard(5132), 51500);
    }

    private static void standardAbove10132() {
        AltimeterWatch x = new AltimeterWatch();
        CHECK.due("standard(10133)", x.standard(10133), -8);
        CHECK.due("standard(10142)", x.standard(10142), -83);
        // Here 83 + d / 250 would be 82 and 80.
        CHECK.due("standard(10382)", x.standard(10382), -2075);
        CHECK.due("standard(10882)", x.standard(10882), -6225);
    }

    private static void standardRange() {
        AltimeterWatch x = new AltimeterWatch();
        CHECK.due("standard(5000)", x.standard(5000), 52859);
        CHECK.due("standard(11000)", x.standard(11000), -7204);
        CHECK.refused("standard(4999)", x, ARGUMENT, () -> x.standard(4999));
        CHECK.refused("standard(11001)", x, ARGUMENT, () -> x.standard(11001));
    }

    private static void altitude() {
        AltimeterWatch x = new AltimeterWatch();
        CHECK.due("altitude()", x.altitude(), 0);
        x.setSea(9000);
        CHECK.due("altitude() with 9000", x.altitude(), -9848);
        x.travel(1, 5000);
        CHECK.due("altitude() with 9000 at 5000", x.altitude(), 52859 - 9848);
        x.setSea(10800);
        CHECK.due("altitude() with 10800 at 5000", x.altitude(), 52859 + 5544);
        x.travel(1, 11000);
        CHECK.due("altitude() with 10800 at 11000", x.altitude(), -7204 + 5544);
    }

    private static void movingAtFirst() {
        AltimeterWatch x = new AltimeterWatch();
        CHECK.due("isStation()", x.isStation(), false);
        x.travel(5, 10032);
        CHECK.due("ascent()", x.ascent(), 830);
        CHECK.due("logged()", x.logged(), 0);
    }

    private static void stationAltitude() {
        AltimeterWatch x = new AltimeterWatch();
        x.travel(1, 10032);
        x.setStation(true);
        // 1095 at 10000, and 265 at 10100
        CHECK.due("travel(1, 10000) at 830", x.travel(1, 10000), 830);
        CHECK.due("sea()", x.sea(), 10100);
        x.setStation(false);
        x.travel(1, 10100);
        CHECK.due("altitude() in the moving mode", x.altitude(), 0);
        x.setStation(true);
        CHECK.due("travel(1, 10000) at 0", x.travel(1, 10000), 0);
        CHECK.due("sea()", x.sea(), 10000);
    }

    private static void travelMinutes() {
        AltimeterWatch x = new AltimeterWatch();
        CHECK.due("travel(1, 10032)", x.travel(1, 10032), 830);
        CHECK.due("minutes()", x.minutes(), 1);
        CHECK.due("travel(120, 9932)", x.travel(120, 9932), 1660);
        CHECK.due("minutes()", x.minutes(), 121);
        CHECK.refused("travel(0, 9000)", x, ARGUMENT, () -> x.travel(0, 9000));
        CHECK.refused("travel(121, 9000)", x, ARGUMENT, () -> x.travel(121, 9000));
    }

    private static void travelPressure() {
        AltimeterWatch x = new AltimeterWatch();
        CHECK.due("travel(7, 5000)", x.travel(7, 5000), 52859);
        CHECK.due("travel(7, 11000)", x.travel(7, 11000), -7204);
        CHECK.due("pressure()", x.pressure(), 11000);
        CHECK.due("travel(120, 11000) to where it is", x.travel(120, 11000), -7204);
        CHECK.refused("travel(7, 4999)", x, ARGUMENT, () -> x.travel(7, 4999));
        CHECK.refused("travel(7, 11001)", x, ARGUMENT, () -> x.travel(7, 11001));
    }

    private static void onTheWay() {
        AltimeterWatch falling = new AltimeterWatch();
        falling.setStation(true);
        falling.travel(3, 10122);
        // 10132 - 3.3, 10132 - 6.7, 10122
        CHECK.due("fall() from 10129", falling.fall(), 7);
        falling.travel(58, 10122);
        CHECK.due("fall() from 10126, as 10129 has left", falling.fall(), 4);
        AltimeterWatch rising = new AltimeterWatch();
        rising.travel(1, 10122);
        rising.travel(3, 10132);
        // From 83 at 10122: 58 at 10125 is 25 lower, 33 at 10128 is 50 lower, and 0 is 33 lower than that.
        CHECK.due("base() at 10128", rising.base(), 33);
        CHECK.due("descent() at 10128", rising.descent(), 50);
        AltimeterWatch whole = new AltimeterWatch();
        whole.setStation(true);
        whole.travel(120, 10012);
        CHECK.due("fall() of the latest 60 of 120", whole.fall(), 59);
    }

    private static void seaInTheStationModeOnly() {
        AltimeterWatch x = new AltimeterWatch();
        x.travel(2, 10032);
        CHECK.due("sea() in the moving mode", x.sea(), 10132);
        x.setStation(true);
        CHECK.due("sea() without a minute", x.sea(), 10132);
        x.travel(1, 10000);
        CHECK.due("sea() after a minute", x.sea(), 10100);
        x.travel(2, 5000);
        // 52859 - 9848 is far from 830, but nothing is nearer.
        CHECK.due("sea() when 830 is out of reach", x.sea(), 9000);
        CHECK.due("altitude() when 830 is out of reach", x.altitude(), 52859 - 9848);
        CHECK.due("travel(1, 10000), to the station altitude", x.travel(1, 10000), 830);
    }

    private static void climbInTheMovingModeOnly() {
        AltimeterWatch x = new AltimeterWatch();
        x.travel(1, 10032);
        x.setStation(true);
        x.travel(1, 5000);
        CHECK.due("altitude() at the station", x.altitude(), 52859 - 9848);
        CHECK.due("ascent() at the station", x.ascent(), 830);
        CHECK.due("base() at the station", x.base(), 830);
        x.travel(1, 11000);
        CHECK.due("descent() at the station", x.descent(), 0);
        x.setStation(false);
        CHECK.due("base() when it moves again", x.base(), x.altitude());
        x.travel(1, 10900);
        CHECK.due("ascent() when it moves again", x.ascent(), 830 + 830);
    }

    private static void logInTheStationModeOnly() {
        AltimeterWatch x = new AltimeterWatch();
        x.travel(9, 10032);
        CHECK.due("logged() in the moving mode", x.logged(), 0);
        x.setStation(true);
        CHECK.due("logged() without a minute", x.logged(), 0);
        x.travel(1, 10000);
        CHECK.due("logged() after a minute", x.logged(), 1);
        x.travel(9, 10000);
        CHECK.due("logged() after ten", x.logged(), 10);
        x.setStation(false);
        x.travel(9, 9000);
        CHECK.due("fall() in the moving mode", x.fall(), 0);
    }

    private static void modeBefore() {
        AltimeterWatch x = new AltimeterWatch();
        CHECK.due("setStation(false)", x.setStation(false), false);
        CHECK.due("setStation(true)", x.setStation(true), false);
        CHECK.due("setStation(true)", x.setStation(true), true);
        CHECK.due("setStation(false)", x.setStation(false), true);
        CHECK.due("setStation(false)", x.setStation(false), false);
    }

    private static void modeAlready() {
        AltimeterWatch moving = new AltimeterWatch();
        moving.travel(1, 10128);
        CHECK.due("altitude() below the threshold", moving.altitude(), 33);
        moving.setStation(false);
        CHECK.due("base() in the moving mode", moving.base(), 0);
        CHECK.due("savedStates()", moving.savedStates(), 2);
        AltimeterWatch station = new AltimeterWatch();
        station.setStation(true);
        station.travel(1, 10132);
        station.travel(1, 5000);
        long before = station.digest();
        station.setStation(true);
        CHECK.due("digest() at the station", station.digest(), before);
        CHECK.due("logged() at the station", station.logged(), 2);
        CHECK.due("savedStates()", station.savedStates(), 4);
        station.travel(1, 5000);
        CHECK.due("alarms() when the alarm goes on", station.alarms(), 1);
        CHECK.due("travel(1, 10000) to the station altitude, which was not present", station.travel(1, 10000), 0);
    }

    private static void minutes() {
        AltimeterWatch x = new AltimeterWatch();
        CHECK.due("minutes()", x.minutes(), 0);
        x.travel(120, 10000);
        x.altitudeAfter(120, 9000);
        x.ascentIn(120, 9000);
        CHECK.due("minutes() after one trip", x.minutes(), 120);
        x.setStation(true);
        x.travel(1, 10000);
        CHECK.due("minutes() after two trips", x.minutes(), 121);
        Check.typed(x, "3>9000;s;120>5000").run();
        CHECK.due("minutes() after trips of a text", x.minutes(), 244);
        x.undo();
        CHECK.due("minutes() after undo()", x.minutes(), 121);
    }
}
