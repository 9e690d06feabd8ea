/** The boundary cases of promises 28 to 32, a test for each sentence: the forecasts, which change nothing. */
public final class EdgesOfForecastsTest {
    private static final Check CHECK = new Check("EdgesOfForecastsTest");
    private static final Class<IllegalArgumentException> ARGUMENT = IllegalArgumentException.class;
    private static final int NONE = AltimeterWatch.NONE;

    public static void main(String[] args) {
        CHECK.sentence("forecasts; they change nothing", EdgesOfForecastsTest::nothingChanges);
        CHECK.sentence("altitudeAfter: minutes: 1 to 120", EdgesOfForecastsTest::altitudeAfterMinutes);
        CHECK.sentence("altitudeAfter: pressure: 5000 to 11000", EdgesOfForecastsTest::altitudeAfterPressure);
        CHECK.sentence("Returns the altitude after the trip.", EdgesOfForecastsTest::altitudeAfterTheTrip);
        CHECK.sentence("ascentIn: minutes: 1 to 120", EdgesOfForecastsTest::ascentInMinutes);
        CHECK.sentence("ascentIn: pressure: 5000 to 11000", EdgesOfForecastsTest::ascentInPressure);
        CHECK.sentence("Returns the increase of the ascent.", EdgesOfForecastsTest::increaseOfTheAscent);
        CHECK.sentence("pressureAt: altitude: -5000 to 50000", EdgesOfForecastsTest::pressureAtRange);
        CHECK.sentence("Returns the greatest pressure from 5000 to 11000 with which the altitude would be at least this one",
            EdgesOfForecastsTest::greatestPressure);
        CHECK.sentence("pressureAt: NONE if there is none.", EdgesOfForecastsTest::noPressure);
        CHECK.sentence("perMinute: 1 to 20", EdgesOfForecastsTest::perMinuteRange);
        CHECK.sentence("by how much the pressure falls in each minute, from the present pressure on",
            EdgesOfForecastsTest::fromThePresentPressureOn);
        CHECK.sentence("Returns the number of minutes after which there is an alarm, by the present weather log and alarm "
            + "limit", EdgesOfForecastsTest::byThePresentLogAndLimit);
        CHECK.sentence("the log has 60 pressures, and the oldest ones leave it", EdgesOfForecastsTest::logOfSixty);
        CHECK.sentence("0 if there is one now", EdgesOfForecastsTest::alarmNow);
        CHECK.sentence("NONE in the moving mode", EdgesOfForecastsTest::noAlarmInTheMovingMode);
        CHECK.sentence("or if the pressure would be less than 5000 before that", EdgesOfForecastsTest::noAlarmBelow5000);
        CHECK.sentence("Returns the ascent as a double, divided by the sum of ascent and descent as a double",
            EdgesOfForecastsTest::share);
        CHECK.sentence("0.5 if both are 0", EdgesOfForecastsTest::shareOfNothing);
        CHECK.end();
    }

    private static AltimeterWatch logging(int limit, int... pressures) {
        AltimeterWatch x = new AltimeterWatch();
        x.setAlarm(limit);
        x.setStation(true);
        for (int pressure : pressures) {
            x.travel(1, pressure);
        }
        return x;
    }

    private static void nothingChanges() {
        for (Situation situation : Situation.values()) {
            leavesEverything(situation, "altitudeAfter(120, 5000)", x -> x.altitudeAfter(120, 5000));
            leavesEverything(situation, "ascentIn(120, 5000)", x -> x.ascentIn(120, 5000));
            leavesEverything(situation, "pressureAt(50000)", x -> x.pressureAt(50000));
            leavesEverything(situation, "minutesToAlarm(1)", x -> x.minutesToAlarm(1));
            leavesEverything(situation, "climbShare()", x -> x.climbShare());
        }
    }

    private static void leavesEverything(Situation situation, String name, Situation.Call call) {
        CHECK.due(name + " when " + situation + " leaves", Probe.everything(() -> situation.makeAnd(call)),
            Probe.everything(situation::make));
    }

    private static void altitudeAfterMinutes() {
        AltimeterWatch x = new AltimeterWatch();
        CHECK.due("altitudeAfter(1, 10032)", x.altitudeAfter(1, 10032), 830);
        CHECK.due("altitudeAfter(120, 10032)", x.altitudeAfter(120, 10032), 830);
        CHECK.refused("altitudeAfter(0, 10032)", x, ARGUMENT, () -> x.altitudeAfter(0, 10032));
        CHECK.refused("altitudeAfter(121, 10032)", x, ARGUMENT, () -> x.altitudeAfter(121, 10032));
    }

    private static void altitudeAfterPressure() {
        AltimeterWatch x = new AltimeterWatch();
        CHECK.due("altitudeAfter(7, 5000)", x.altitudeAfter(7, 5000), 52859);
        CHECK.due("altitudeAfter(7, 11000)", x.altitudeAfter(7, 11000), -7204);
        CHECK.refused("altitudeAfter(7, 4999)", x, ARGUMENT, () -> x.altitudeAfter(7, 4999));
        CHECK.refused("altitudeAfter(7, 11001)", x, ARGUMENT, () -> x.altitudeAfter(7, 11001));
    }

    private static void altitudeAfterTheTrip() {
        AltimeterWatch x = new AltimeterWatch();
        x.setSea(10032);
        CHECK.due("altitudeAfter(3, 9932) in the moving mode", x.altitudeAfter(3, 9932), 830);
        x.setStation(true);
        // 9835 and 9836, which give -834 and -826, are equally near to -830.
        CHECK.due("altitudeAfter(3, 9932) at -830", x.altitudeAfter(3, 9932), -834);
        CHECK.due("altitudeAfter(3, 5000) out of reach", x.altitudeAfter(3, 5000), 52859 - 9848);
        CHECK.due("altitudeAfter(3, 10700) within reach", x.altitudeAfter(3, 10700), -830);
        x.setSea(10800);
        CHECK.due("altitudeAfter(3, 11000) out of reach", x.altitudeAfter(3, 11000), -7204 + 5544);
        x.travel(1, 11000);
        CHECK.due("altitudeAfter(3, 10132), to the station altitude", x.altitudeAfter(3, 10132), 5544);
    }

    private static void ascentInMinutes() {
        AltimeterWatch x = new AltimeterWatch();
        CHECK.due("ascentIn(1, 10073)", x.ascentIn(1, 10073), 489);
        // On the way 58, 116, 166, 224, 282, 332, 390 and 448 are taken, each one at least 50 higher.
        CHECK.due("ascentIn(120, 10073)", x.ascentIn(120, 10073), 448);
        CHECK.refused("ascentIn(0, 10032)", x, ARGUMENT, () -> x.ascentIn(0, 10032));
        CHECK.refused("ascentIn(121, 10032)", x, ARGUMENT, () -> x.ascentIn(121, 10032));
    }

    private static void ascentInPressure() {
        AltimeterWatch x = new AltimeterWatch();
        CHECK.due("ascentIn(7, 5000)", x.ascentIn(7, 5000), 52859);
        CHECK.due("ascentIn(7, 11000)", x.ascentIn(7, 11000), 0);
        CHECK.refused("ascentIn(7, 4999)", x, ARGUMENT, () -> x.ascentIn(7, 4999));
        CHECK.refused("ascentIn(7, 11001)", x, ARGUMENT, () -> x.ascentIn(7, 11001));
    }

    private static void increaseOfTheAscent() {
        AltimeterWatch x = new AltimeterWatch();
        x.setThreshold(83);
        CHECK.due("ascentIn(1, 10123) below the threshold", x.ascentIn(1, 10123), 0);
        CHECK.due("ascentIn(1, 10122) at the threshold", x.ascentIn(1, 10122), 83);
        x.travel(1, 10032);
        CHECK.due("ascentIn(1, 10022) is not the ascent", x.ascentIn(1, 10022), 83);
        CHECK.due("ascentIn(1, 10032) to where it is", x.ascentIn(1, 10032), 0);
        x.setThreshold(500);
        x.travel(1, 10082);
        x.setThreshold(50);
        // From 415, which is far below the base altitude 830: 622 is taken as a descent, and then 830 as an ascent.
        CHECK.due("ascentIn(2, 10032) after a descent on the way", x.ascentIn(2, 10032), 208);
        CHECK.due("travel(2, 10032) does what was told", x.travel(2, 10032) - 830 + x.ascent(), 830 + 208);
        x.setStation(true);
        CHECK.due("ascentIn(9, 5000) at the station", x.ascentIn(9, 5000), 0);
    }

    private static void pressureAtRange() {
        AltimeterWatch x = new AltimeterWatch();
        CHECK.due("pressureAt(-5000)", x.pressureAt(-5000), 10734);
        CHECK.due("pressureAt(50000)", x.pressureAt(50000), 5230);
        CHECK.refused("pressureAt(-5001)", x, ARGUMENT, () -> x.pressureAt(-5001));
        CHECK.refused("pressureAt(50001)", x, ARGUMENT, () -> x.pressureAt(50001));
    }

    private static void greatestPressure() {
        AltimeterWatch x = new AltimeterWatch();
        CHECK.due("pressureAt(0)", x.pressureAt(0), 10132);
        CHECK.due("pressureAt(1)", x.pressureAt(1), 10131);
        CHECK.due("pressureAt(8)", x.pressureAt(8), 10131);
        CHECK.due("pressureAt(9)", x.pressureAt(9), 10130);
        CHECK.due("pressureAt(-7)", x.pressureAt(-7), 10132);
        CHECK.due("pressureAt(-8)", x.pressureAt(-8), 10133);
        x.setSea(10800);
        // 10999, 11000 give -1652, -1660
        CHECK.due("pressureAt(-1652)", x.pressureAt(-1652), 10999);
        CHECK.due("pressureAt(-1653)", x.pressureAt(-1653), 10999);
        CHECK.due("pressureAt(-1659)", x.pressureAt(-1659), 10999);
        CHECK.due("pressureAt(-1660)", x.pressureAt(-1660), 11000);
        CHECK.due("pressureAt(-1661)", x.pressureAt(-1661), 11000);
        CHECK.due("pressureAt(-5000)", x.pressureAt(-5000), 11000);
        x.setStation(true);
        x.travel(1, 10032);
        int sea = x.sea();
        CHECK.due("pressureAt(5545) with the present sea setting", x.pressureAt(5545), 10031);
        CHECK.due("sea()", x.sea(), sea);
    }

    private static void noPressure() {
        AltimeterWatch x = new AltimeterWatch();
        x.setSea(9000);
        // 5000, 5001 give 43011, 43001
        CHECK.due("pressureAt(43001)", x.pressureAt(43001), 5001);
        CHECK.due("pressureAt(43002)", x.pressureAt(43002), 5000);
        CHECK.due("pressureAt(43011)", x.pressureAt(43011), 5000);
        CHECK.due("pressureAt(43012)", x.pressureAt(43012), NONE);
        CHECK.due("pressureAt(50000)", x.pressureAt(50000), NONE);
    }

    private static void perMinuteRange() {
        AltimeterWatch x = logging(40, 10132);
        CHECK.due("minutesToAlarm(1)", x.minutesToAlarm(1), 40);
        CHECK.due("minutesToAlarm(20)", x.minutesToAlarm(20), 2);
        CHECK.refused("minutesToAlarm(0)", x, ARGUMENT, () -> x.minutesToAlarm(0));
        CHECK.refused("minutesToAlarm(21)", x, ARGUMENT, () -> x.minutesToAlarm(21));
        AltimeterWatch moving = new AltimeterWatch();
        CHECK.refused("minutesToAlarm(0) in the moving mode", moving, ARGUMENT, () -> moving.minutesToAlarm(0));
        AltimeterWatch alarm = logging(40, 10132, 10032);
        CHECK.refused("minutesToAlarm(21) when there is an alarm", alarm, ARGUMENT, () -> alarm.minutesToAlarm(21));
    }

    private static void fromThePresentPressureOn() {
        // The pressure of the first minute is lower already: with an empty log the fall is 0 then.
        CHECK.due("minutesToAlarm(20) with an empty log", logging(40).minutesToAlarm(20), 3);
        CHECK.due("minutesToAlarm(1) with an empty log", logging(40).minutesToAlarm(1), 41);
        CHECK.due("minutesToAlarm(20) after 10132", logging(40, 10132).minutesToAlarm(20), 2);
        CHECK.due("minutesToAlarm(19) after 10132", logging(40, 10132).minutesToAlarm(19), 3);
        CHECK.due("minutesToAlarm(20) after a rise", logging(40, 10092, 10132).minutesToAlarm(20), 2);
    }

    private static void byThePresentLogAndLimit() {
        AltimeterWatch x = logging(40, 10132, 10102);
        CHECK.due("minutesToAlarm(10) for 40", x.minutesToAlarm(10), 1);
        CHECK.due("minutesToAlarm(9) for 40", x.minutesToAlarm(9), 2);
        x.setAlarm(50);
        CHECK.due("minutesToAlarm(10) for 50", x.minutesToAlarm(10), 2);
        x.setAlarm(51);
        CHECK.due("minutesToAlarm(10) for 51", x.minutesToAlarm(10), 3);
        x.setStation(false);
        x.setStation(true);
        CHECK.due("minutesToAlarm(10) with an empty log", x.minutesToAlarm(10), 7);
    }

    private static void logOfSixty() {
        AltimeterWatch x = logging(59, 10132);
        x.travel(59, 10132);
        CHECK.due("minutesToAlarm(1) for 59 after 60 equal ones", x.minutesToAlarm(1), 59);
        x.setAlarm(60);
        CHECK.due("minutesToAlarm(1) for 60 after 60 equal ones", x.minutesToAlarm(1), NONE);
        AltimeterWatch leaving = logging(31, 10132, 10102);
        leaving.travel(57, 10102);
        CHECK.due("minutesToAlarm(1) with room for one more", leaving.minutesToAlarm(1), 1);
        leaving.travel(1, 10102);
        CHECK.due("minutesToAlarm(1) when the greatest one leaves", leaving.minutesToAlarm(1), 31);
        AltimeterWatch fallOnly = logging(59);
        CHECK.due("minutesToAlarm(1) for 59 with an empty log", fallOnly.minutesToAlarm(1), 60);
        fallOnly.setAlarm(60);
        CHECK.due("minutesToAlarm(1) for 60 with an empty log", fallOnly.minutesToAlarm(1), NONE);
        AltimeterWatch one = logging(60, 10132);
        // 10132 is there until 59 minutes have passed.
        CHECK.due("minutesToAlarm(1) for 60 after 10132", one.minutesToAlarm(1), NONE);
        one.setAlarm(59);
        CHECK.due("minutesToAlarm(1) for 59 after 10132", one.minutesToAlarm(1), 59);
    }

    private static void alarmNow() {
        AltimeterWatch x = logging(40, 10132, 10092);
        CHECK.due("minutesToAlarm(1) at 40", x.minutesToAlarm(1), 0);
        x.setAlarm(41);
        CHECK.due("minutesToAlarm(1) at 40 for 41", x.minutesToAlarm(1), 1);
        CHECK.due("minutesToAlarm(20) at 5000", logging(40, 5040, 5000).minutesToAlarm(20), 0);
    }

    private static void noAlarmInTheMovingMode() {
        AltimeterWatch x = new AltimeterWatch();
        CHECK.due("minutesToAlarm(20)", x.minutesToAlarm(20), NONE);
        AltimeterWatch y = logging(40, 10132, 10092);
        y.setStation(false);
        CHECK.due("minutesToAlarm(20) after an alarm", y.minutesToAlarm(20), NONE);
    }

    private static void noAlarmBelow5000() {
        CHECK.due("minutesToAlarm(1) for 40 from 5040", logging(40, 5040).minutesToAlarm(1), 40);
        CHECK.due("minutesToAlarm(20) for 40 from 5040", logging(40, 5040).minutesToAlarm(20), 2);
        CHECK.due("minutesToAlarm(1) for 40 from 5039", logging(40, 5039).minutesToAlarm(1), NONE);
        CHECK.due("minutesToAlarm(20) for 41 from 5040", logging(41, 5040).minutesToAlarm(20), NONE);
        CHECK.due("minutesToAlarm(1) for 40 at 5000", logging(40, 5000).minutesToAlarm(1), NONE);
        CHECK.due("minutesToAlarm(1) for 40 at 5039 and 5000", logging(40, 5039, 5000).minutesToAlarm(1), NONE);
        AltimeterWatch x = logging(40, 5060);
        x.setStation(false);
        x.setStation(true);
        CHECK.due("minutesToAlarm(20) with an empty log", x.minutesToAlarm(20), 3);
        x.setAlarm(41);
        CHECK.due("minutesToAlarm(20) for 41 with an empty log", x.minutesToAlarm(20), NONE);
    }

    private static void share() {
        AltimeterWatch x = new AltimeterWatch();
        x.travel(1, 10032);
        CHECK.due("climbShare() of an ascent", x.climbShare(), 1.0);
        x.travel(1, 10132);
        CHECK.due("climbShare() of 830 up and down", x.climbShare(), 0.5);
        x.travel(1, 10232);
        CHECK.due("climbShare() of 830 up and 1660 down", x.climbShare(), 830.0 / 2490.0);
        AltimeterWatch y = new AltimeterWatch();
        y.travel(1, 10232);
        CHECK.due("climbShare() of a descent", y.climbShare(), 0.0);
    }

    private static void shareOfNothing() {
        AltimeterWatch x = new AltimeterWatch();
        CHECK.due("climbShare() of a new watch", x.climbShare(), 0.5);
        x.travel(1, 10128);
        CHECK.due("climbShare() below the threshold", x.climbShare(), 0.5);
        x.setStation(true);
        x.travel(1, 5000);
        x.setStation(false);
        CHECK.due("climbShare() after the station mode", x.climbShare(), 0.5);
    }
}
