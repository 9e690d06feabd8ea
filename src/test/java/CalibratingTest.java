/** Promises 9 to 13: the sea setting, calibrations and drift. */
public final class CalibratingTest {
    private static final Check CHECK = new Check("CalibratingTest");
    private static final Class<IllegalArgumentException> ARGUMENT = IllegalArgumentException.class;

    public static void main(String[] args) {
        setSea();
        setSeaAtTheStation();
        calibrate();
        calibrateOutOfReach();
        calibrateAtTheStation();
        nearestSettings();
        wrongArguments();
        CHECK.end();
    }

    private static void setSea() {
        AltimeterWatch x = new AltimeterWatch();
        CHECK.due("setSea(10032)", x.setSea(10032), 10132);
        CHECK.due("sea()", x.sea(), 10032);
        CHECK.due("altitude()", x.altitude(), -830);
        CHECK.due("base()", x.base(), -830);
        CHECK.due("descent()", x.descent(), 0);
        CHECK.due("calibrations()", x.calibrations(), 0);
        CHECK.due("drift()", x.drift(), 0);
        CHECK.due("setSea(9000)", x.setSea(9000), 10032);
        CHECK.due("setSea(10800)", x.setSea(10800), 9000);
        CHECK.due("base()", x.base(), 5544);
        CHECK.due("savedStates()", x.savedStates(), 3);
        x.undo();
        CHECK.due("sea() after undo()", x.sea(), 9000);
    }

    private static void setSeaAtTheStation() {
        AltimeterWatch x = new AltimeterWatch();
        x.setStation(true);
        x.setSea(10032);
        CHECK.due("base() at the station", x.base(), -830);
        CHECK.due("travel(1, 10032) at the station", x.travel(1, 10032), -830);
        CHECK.due("sea() at the station", x.sea(), 9932);
        x.setSea(10032);
        CHECK.due("logged() after setSea(10032)", x.logged(), 1);
    }

    private static void calibrate() {
        AltimeterWatch x = new AltimeterWatch();
        x.setThreshold(10);
        x.travel(1, 10032);
        CHECK.due("calibrate(1660)", x.calibrate(1660), -830);
        CHECK.due("sea()", x.sea(), 10232);
        CHECK.due("altitude()", x.altitude(), 1660);
        CHECK.due("base()", x.base(), 1660);
        CHECK.due("ascent()", x.ascent(), 830);
        CHECK.due("descent()", x.descent(), 0);
        CHECK.due("drift()", x.drift(), -830);
        CHECK.due("calibrations()", x.calibrations(), 1);
        CHECK.due("calibrate(0)", x.calibrate(0), 1660);
        CHECK.due("drift()", x.drift(), 830);
        CHECK.due("calibrations()", x.calibrations(), 2);
        CHECK.due("calibrate(0)", x.calibrate(0), 0);
        CHECK.due("calibrations()", x.calibrations(), 3);
        CHECK.due("savedStates()", x.savedStates(), 5);
        x.undo();
        x.undo();
        CHECK.due("calibrations() after undo()", x.calibrations(), 1);
        CHECK.due("drift() after undo()", x.drift(), -830);
        CHECK.due("altitude() after undo()", x.altitude(), 1660);
    }

    private static void calibrateOutOfReach() {
        AltimeterWatch x = new AltimeterWatch();
        CHECK.due("calibrate(50000)", x.calibrate(50000), -50000);
        CHECK.due("sea()", x.sea(), 10800);
        CHECK.due("altitude()", x.altitude(), 5544);
        x.travel(1, 5000);
        CHECK.due("calibrate(-5000)", x.calibrate(-5000), 52859 + 5544 + 5000);
        CHECK.due("sea()", x.sea(), 9000);
        CHECK.due("base()", x.base(), 52859 - 9848);
        CHECK.due("drift()", x.drift(), 13403);
    }

    private static void calibrateAtTheStation() {
        AltimeterWatch x = new AltimeterWatch();
        x.travel(1, 9132);
        x.setStation(true);
        CHECK.due("calibrate(7870) at the station", x.calibrate(7870), 830);
        CHECK.due("sea()", x.sea(), 10032);
        CHECK.due("base()", x.base(), 7870);
        CHECK.due("travel(5, 9132)", x.travel(5, 9132), 7870);
        CHECK.due("calibrate(50000) at the station", x.calibrate(50000), -42130);
        CHECK.due("altitude()", x.altitude(), 14244);
        // The station altitude is the altitude that was reached, not the one that was wanted.
        x.travel(1, 9532);
        CHECK.due("sea() at a higher pressure", x.sea(), 10800);
        x.travel(1, 9032);
        CHECK.due("altitude() at a lower pressure", x.altitude(), 14242);
        CHECK.due("logged()", x.logged(), 7);
    }

    /** Among all settings the nearest one, and of two that are equally near the lesser one. */
    private static void nearestSettings() {
        // At 10132 the settings 10132, 10131, 10130 give 0, -8, -16.
        int[] altitudes = {0, -1, -3, -4, -5, -8, -11, -12, -13, 1, 3, 4, 5, 8, 12};
        int[] settings = {10132, 10132, 10132, 10131, 10131, 10131, 10131, 10130, 10130,
            10132, 10132, 10132, 10133, 10133, 10133};
        for (int i = 0; i < altitudes.length; i++) {
            AltimeterWatch x = new AltimeterWatch();
            CHECK.due("calibrate(" + altitudes[i] + ")", x.calibrate(altitudes[i]), -altitudes[i]);
            CHECK.due("sea() after it", x.sea(), settings[i]);
        }
        int[] edgeAltitudes = {-5000, 5543, 5540, 5539, 5544, 5545, 5536};
        for (int altitude : edgeAltitudes) {
            AltimeterWatch x = new AltimeterWatch();
            x.calibrate(altitude);
            CHECK.due("sea() after calibrate(" + altitude + ")", x.sea(), nearest(x, altitude));
        }
        for (int altitude = 43000; altitude <= 43040; altitude++) {
            AltimeterWatch x = new AltimeterWatch();
            x.travel(1, 5000);
            x.calibrate(altitude);
            CHECK.due("sea() after calibrate(" + altitude + ") at 5000", x.sea(), nearest(x, altitude));
        }
    }

    private static int nearest(AltimeterWatch x, int altitude) {
        int best = 9000;
        for (int sea = 9000; sea <= 10800; sea++) {
            if (distance(x, sea, altitude) < distance(x, best, altitude)) {
                best = sea;
            }
        }
        return best;
    }

    private static int distance(AltimeterWatch x, int sea, int altitude) {
        return Math.abs(x.standard(x.pressure()) - x.standard(sea) - altitude);
    }

    private static void wrongArguments() {
        AltimeterWatch x = new AltimeterWatch();
        x.travel(5, 10000);
        for (int sea : new int[] {8999, 10801, 0, -1, Integer.MIN_VALUE, Integer.MAX_VALUE}) {
            CHECK.refused("setSea(" + sea + ")", x, ARGUMENT, () -> x.setSea(sea));
        }
        for (int altitude : new int[] {-5001, 50001, Integer.MIN_VALUE, Integer.MAX_VALUE}) {
            CHECK.refused("calibrate(" + altitude + ")", x, ARGUMENT, () -> x.calibrate(altitude));
        }
    }
}
