/** Promises 28 to 32: forecasts, which change nothing. */
public final class ForecastTest {
    private static final Check CHECK = new Check("ForecastTest");
    private static final Class<IllegalArgumentException> ARGUMENT = IllegalArgumentException.class;

    public static void main(String[] args) {
        altitudeAfter();
        ascentIn();
        pressureAt();
        pressureAtTheEnds();
        minutesToAlarm();
        minutesToAlarmWithAFullLog();
        minutesToAlarmAtTheLeastPressure();
        climbShare();
        wrongArguments();
        nothingChanges();
        CHECK.end();
    }

    private static void altitudeAfter() {
        AltimeterWatch x = new AltimeterWatch();
        CHECK.due("altitudeAfter(1, 10032)", x.altitudeAfter(1, 10032), 830);
        CHECK.due("altitudeAfter(120, 5000)", x.altitudeAfter(120, 5000), 52859);
        CHECK.due("altitudeAfter(120, 11000)", x.altitudeAfter(120, 11000), -7204);
        x.setSea(10032);
        CHECK.due("altitudeAfter(1, 9932)", x.altitudeAfter(1, 9932), 830);
        x.setStation(true);
        // -834 with 9835 and -826 with 9836 are equally near to -830
        CHECK.due("altitudeAfter(7, 9932) at the station", x.altitudeAfter(7, 9932), -834);
        CHECK.due("altitudeAfter(7, 5000) at the station", x.altitudeAfter(7, 5000), 52859 - 9848);
        CHECK.due("altitudeAfter(7, 9935) at the station", x.altitudeAfter(7, 9935), x.travel(7, 9935));
        CHECK.due("altitude() near that of the station", x.altitude(), -834);
        CHECK.due("travel(3, 9777) at the station", x.altitudeAfter(3, 9777), x.travel(3, 9777));
    }

    private static void ascentIn() {
        AltimeterWatch x = new AltimeterWatch();
        CHECK.due("ascentIn(10, 10122) with steps of 8", x.ascentIn(10, 10122), 58);
        CHECK.due("ascentIn(1, 10122)", x.ascentIn(1, 10122), 83);
        CHECK.due("ascentIn(1, 10127)", x.ascentIn(1, 10127), 0);
        CHECK.due("ascentIn(5, 10232)", x.ascentIn(5, 10232), 0);
        x.travel(1, 10127);
        CHECK.due("ascentIn(1, 10122) from the base", x.ascentIn(1, 10122), 83);
        x.travel(1, 10032);
        CHECK.due("ascentIn(1, 9932) is an increase", x.ascentIn(1, 9932), 830);
        x.setThreshold(500);
        CHECK.due("ascentIn(1, 9982) with the threshold 500", x.ascentIn(1, 9982), 0);
        CHECK.due("ascentIn(1, 9932) with the threshold 500", x.ascentIn(1, 9932), 830);
        x.travel(1, 9992);
        x.setThreshold(100);
        // The altitude is 332 above the base now, but it is taken only after the next minute.
        CHECK.due("ascentIn(1, 10032) back to the base", x.ascentIn(1, 10032), 0);
        CHECK.due("ascentIn(2, 10032) back to the base", x.ascentIn(2, 10032), 166);
        x.setStation(true);
        CHECK.due("ascentIn(10, 5000) at the station", x.ascentIn(10, 5000), 0);
    }

    private static void pressureAt() {
        AltimeterWatch x = new AltimeterWatch();
        CHECK.due("pressureAt(0)", x.pressureAt(0), 10132);
        CHECK.due("pressureAt(1)", x.pressureAt(1), 10131);
        CHECK.due("pressureAt(8)", x.pressureAt(8), 10131);
        CHECK.due("pressureAt(9)", x.pressureAt(9), 10130);
        CHECK.due("pressureAt(-8)", x.pressureAt(-8), 10133);
        CHECK.due("pressureAt(-7)", x.pressureAt(-7), 10132);
        CHECK.due("pressureAt(8700)", x.pressureAt(8700), 9132);
        CHECK.due("pressureAt(8701)", x.pressureAt(8701), 9131);
        x.travel(5, 7000);
        CHECK.due("pressureAt(8700) elsewhere", x.pressureAt(8700), 9132);
        x.setSea(10032);
        CHECK.due("pressureAt(830) with another sea setting", x.pressureAt(830), 9932);
        x.setStation(true);
        CHECK.due("pressureAt(830) at the station", x.pressureAt(830), 9932);
    }

    private static void pressureAtTheEnds() {
        AltimeterWatch x = new AltimeterWatch();
        CHECK.due("pressureAt(50000)", x.pressureAt(50000), 5230);
        x.setSea(9000);
        // 5000 gives 52859 - 9848
        CHECK.due("pressureAt(43011)", x.pressureAt(43011), 5000);
        CHECK.due("pressureAt(43012)", x.pressureAt(43012), AltimeterWatch.NONE);
        CHECK.due("pressureAt(50000)", x.pressureAt(50000), AltimeterWatch.NONE);
        CHECK.due("pressureAt(-5000)", x.pressureAt(-5000), 9561);
        x.setSea(10800);
        CHECK.due("pressureAt(-1660)", x.pressureAt(-1660), 11000);
        CHECK.due("pressureAt(-1659)", x.pressureAt(-1659), 10999);
        CHECK.due("pressureAt(-5000)", x.pressureAt(-5000), 11000);
    }

    private static void minutesToAlarm() {
        AltimeterWatch x = new AltimeterWatch();
        CHECK.due("minutesToAlarm(20) in the moving mode", x.minutesToAlarm(20), AltimeterWatch.NONE);
        x.setStation(true);
        // The log is empty: after one minute it holds 10112 alone.
        CHECK.due("minutesToAlarm(20) with an empty log", x.minutesToAlarm(20), 3);
        CHECK.due("minutesToAlarm(1) with an empty log", x.minutesToAlarm(1), 41);
        x.travel(1, 10132);
        CHECK.due("minutesToAlarm(20) with one pressure", x.minutesToAlarm(20), 2);
        CHECK.due("minutesToAlarm(1) with one pressure", x.minutesToAlarm(1), 40);
        CHECK.due("minutesToAlarm(19) with one pressure", x.minutesToAlarm(19), 3);
        x.travel(1, 10102);
        CHECK.due("minutesToAlarm(1) after a fall of 30", x.minutesToAlarm(1), 10);
        CHECK.due("minutesToAlarm(20) after a fall of 30", x.minutesToAlarm(20), 1);
        x.setAlarm(31);
        CHECK.due("minutesToAlarm(1) with the limit 31", x.minutesToAlarm(1), 1);
        x.setAlarm(30);
        CHECK.due("minutesToAlarm(1) with the limit 30", x.minutesToAlarm(1), 0);
        x.setStation(false);
        CHECK.due("minutesToAlarm(1) in the moving mode", x.minutesToAlarm(1), AltimeterWatch.NONE);
    }

    private static void minutesToAlarmWithAFullLog() {
        AltimeterWatch x = new AltimeterWatch();
        x.setStation(true);
        x.travel(60, 10132);
        x.setAlarm(59);
        CHECK.due("minutesToAlarm(1) with 60 equal pressures", x.minutesToAlarm(1), 59);
        x.setAlarm(60);
        CHECK.due("minutesToAlarm(1) for more than 59", x.minutesToAlarm(1), AltimeterWatch.NONE);
        x.setAlarm(118);
        CHECK.due("minutesToAlarm(2) for 118", x.minutesToAlarm(2), 59);
        x.setAlarm(119);
        CHECK.due("minutesToAlarm(2) for 119", x.minutesToAlarm(2), AltimeterWatch.NONE);
        x.travel(1, 10132);
        x.travel(1, 10122);
        x.travel(57, 10122);
        // 10132 is the second of 60 pressures, so it is there for one more minute only.
        x.setAlarm(12);
        CHECK.due("minutesToAlarm(1) when the greatest one leaves", x.minutesToAlarm(1), 12);
        x.setAlarm(11);
        CHECK.due("minutesToAlarm(1) before the greatest one leaves", x.minutesToAlarm(1), 1);
        AltimeterWatch y = new AltimeterWatch();
        y.setStation(true);
        y.setAlarm(59);
        CHECK.due("minutesToAlarm(1) with nothing but the fall", y.minutesToAlarm(1), 60);
        y.setAlarm(60);
        CHECK.due("minutesToAlarm(1) with nothing but the fall", y.minutesToAlarm(1), AltimeterWatch.NONE);
        y.setAlarm(177);
        CHECK.due("minutesToAlarm(3) with nothing but the fall", y.minutesToAlarm(3), 60);
    }

    private static void minutesToAlarmAtTheLeastPressure() {
        AltimeterWatch x = new AltimeterWatch();
        x.setStation(true);
        x.travel(1, 5040);
        CHECK.due("minutesToAlarm(20) down to 5000", x.minutesToAlarm(20), 2);
        CHECK.due("minutesToAlarm(10) down to 5000", x.minutesToAlarm(10), 4);
        CHECK.due("minutesToAlarm(1) down to 5000", x.minutesToAlarm(1), 40);
        x.setAlarm(41);
        CHECK.due("minutesToAlarm(20) below 5000", x.minutesToAlarm(20), AltimeterWatch.NONE);
        CHECK.due("minutesToAlarm(1) below 5000", x.minutesToAlarm(1), AltimeterWatch.NONE);
        x.setAlarm(200);
        CHECK.due("minutesToAlarm(20) for 200", x.minutesToAlarm(20), AltimeterWatch.NONE);
        x.travel(1, 5200);
        CHECK.due("minutesToAlarm(20) from 5200", x.minutesToAlarm(20), 10);
        x.travel(1, 5000);
        CHECK.due("minutesToAlarm(20) when there is one at 5000", x.minutesToAlarm(20), 0);
    }

    private static void climbShare() {
        AltimeterWatch x = new AltimeterWatch();
        CHECK.due("climbShare()", x.climbShare(), 0.5);
        x.travel(1, 10032);
        CHECK.due("climbShare() after a climb", x.climbShare(), 1.0);
        x.travel(1, 10132);
        CHECK.due("climbShare() back again", x.climbShare(), 0.5);
        x.travel(1, 10332);
        CHECK.due("climbShare() further down", x.climbShare(), 830.0 / 3320.0);
        x.travel(1, 9132);
        CHECK.due("climbShare() further up", x.climbShare(), (830.0 + 10360.0) / (830.0 + 10360.0 + 2490.0));
        AltimeterWatch y = new AltimeterWatch();
        y.travel(1, 10232);
        CHECK.due("climbShare() after a descent", y.climbShare(), 0.0);
    }

    private static void wrongArguments() {
        AltimeterWatch x = new AltimeterWatch();
        x.travel(5, 10000);
        for (int minutes : new int[] {0, 121, -1, Integer.MIN_VALUE, Integer.MAX_VALUE}) {
            CHECK.refused("altitudeAfter(" + minutes + ", 9000)", x, ARGUMENT, () -> x.altitudeAfter(minutes, 9000));
            CHECK.refused("ascentIn(" + minutes + ", 9000)", x, ARGUMENT, () -> x.ascentIn(minutes, 9000));
        }
        for (int pressure : new int[] {4999, 11001, -1, Integer.MIN_VALUE, Integer.MAX_VALUE}) {
            CHECK.refused("altitudeAfter(5, " + pressure + ")", x, ARGUMENT, () -> x.altitudeAfter(5, pressure));
            CHECK.refused("ascentIn(5, " + pressure + ")", x, ARGUMENT, () -> x.ascentIn(5, pressure));
        }
        for (int altitude : new int[] {-5001, 50001, Integer.MIN_VALUE, Integer.MAX_VALUE}) {
            CHECK.refused("pressureAt(" + altitude + ")", x, ARGUMENT, () -> x.pressureAt(altitude));
        }
        for (int perMinute : new int[] {0, 21, -1, Integer.MIN_VALUE, Integer.MAX_VALUE}) {
            CHECK.refused("minutesToAlarm(" + perMinute + ")", x, ARGUMENT, () -> x.minutesToAlarm(perMinute));
        }
    }

    private static void nothingChanges() {
        AltimeterWatch x = new AltimeterWatch();
        for (boolean station : new boolean[] {false, true}) {
            x.setStation(station);
            x.travel(5, 10000);
            long before = x.digest();
            int saved = x.savedStates();
            x.altitudeAfter(5, 6000);
            x.ascentIn(5, 6000);
            x.pressureAt(2000);
            x.minutesToAlarm(3);
            x.climbShare();
            CHECK.due("digest() after forecasts", x.digest(), before);
            CHECK.due("savedStates() after forecasts", x.savedStates(), saved);
            CHECK.due("sea() after forecasts", x.sea(), 10132);
        }
    }
}
