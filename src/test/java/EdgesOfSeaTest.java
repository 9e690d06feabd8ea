/** The boundary cases of promises 9 to 13, a test for each sentence: the sea setting, adjusting it, calibrations, drift. */
public final class EdgesOfSeaTest {
    private static final Check CHECK = new Check("EdgesOfSeaTest");
    private static final Class<IllegalArgumentException> ARGUMENT = IllegalArgumentException.class;

    public static void main(String[] args) {
        CHECK.sentence("The watch has a sea setting, which is a pressure from 9000 to 10800, at first 10132.",
            EdgesOfSeaTest::seaAtFirst);
        CHECK.sentence("setSea: pressure: 9000 to 10800", EdgesOfSeaTest::setSeaRange);
        CHECK.sentence("Returns the previous sea setting.", EdgesOfSeaTest::previousSea);
        CHECK.sentence("among the pressures from 9000 to 10800, the sea setting becomes the one with which the altitude is "
            + "nearest to this one", EdgesOfSeaTest::nearest);
        CHECK.sentence("the sea setting becomes one from 9000 on", EdgesOfSeaTest::leastSea);
        CHECK.sentence("the sea setting becomes one up to 10800", EdgesOfSeaTest::mostSea);
        CHECK.sentence("among several such pressures the least one", EdgesOfSeaTest::leastOfSeveral);
        CHECK.sentence("setSea: In the station mode, the station altitude becomes the present altitude then.",
            EdgesOfSeaTest::setSeaAtTheStation);
        CHECK.sentence("setSea: The base altitude of the climb counter becomes the present altitude.",
            EdgesOfSeaTest::setSeaMovesTheBase);
        CHECK.sentence("(This is not a calibration.)", EdgesOfSeaTest::setSeaIsNoCalibration);
        CHECK.sentence("calibrate: altitude: -5000 to 50000, the true altitude", EdgesOfSeaTest::calibrateRange);
        CHECK.sentence("its error is the present altitude minus this one", EdgesOfSeaTest::error);
        CHECK.sentence("In the station mode, the station altitude becomes the present altitude then",
            EdgesOfSeaTest::calibrateAtTheStation);
        CHECK.sentence("and so does, in both modes, the base altitude of the climb counter",
            EdgesOfSeaTest::calibrateMovesTheBase);
        CHECK.sentence("The drift is the sum of the errors of all calibrations.", EdgesOfSeaTest::drift);
        CHECK.sentence("Returns the number of calibrations so far.", EdgesOfSeaTest::calibrations);
        CHECK.end();
    }

    private static AltimeterWatch at(int pressure) {
        AltimeterWatch x = new AltimeterWatch();
        x.travel(1, pressure);
        return x;
    }

    private static void seaAfter(int pressure, int altitude, int sea) {
        AltimeterWatch x = at(pressure);
        x.calibrate(altitude);
        CHECK.due("sea() after calibrate(" + altitude + ") at " + pressure, x.sea(), sea);
    }

    private static void seaAtFirst() {
        AltimeterWatch x = new AltimeterWatch();
        CHECK.due("sea()", x.sea(), 10132);
        x.setSea(9000);
        CHECK.due("sea() after setSea(9000)", x.sea(), 9000);
        x.setSea(10800);
        CHECK.due("sea() after setSea(10800)", x.sea(), 10800);
    }

    private static void setSeaRange() {
        AltimeterWatch x = new AltimeterWatch();
        CHECK.due("setSea(9000)", x.setSea(9000), 10132);
        CHECK.due("altitude() with 9000", x.altitude(), -9848);
        CHECK.due("setSea(10800)", x.setSea(10800), 9000);
        CHECK.due("altitude() with 10800", x.altitude(), 5544);
        CHECK.refused("setSea(8999)", x, ARGUMENT, () -> x.setSea(8999));
        CHECK.refused("setSea(10801)", x, ARGUMENT, () -> x.setSea(10801));
    }

    private static void previousSea() {
        AltimeterWatch x = new AltimeterWatch();
        CHECK.due("setSea(10132)", x.setSea(10132), 10132);
        CHECK.due("setSea(9900)", x.setSea(9900), 10132);
        CHECK.due("setSea(9900)", x.setSea(9900), 9900);
        x.calibrate(830);
        CHECK.due("setSea(9901) after calibrate(830)", x.setSea(9901), 10232);
    }

    private static void nearest() {
        // 10131, 10132, 10133 give -8, 0, 8.
        seaAfter(10132, 0, 10132);
        seaAfter(10132, 3, 10132);
        seaAfter(10132, 5, 10133);
        seaAfter(10132, 8, 10133);
        seaAfter(10132, -3, 10132);
        seaAfter(10132, -5, 10131);
        seaAfter(10132, -8, 10131);
        // 9882 and 9883 give -2100 and -2066, where the steps are wider.
        seaAfter(10132, -2084, 9882);
        seaAfter(10132, -2082, 9883);
    }

    private static void leastSea() {
        // At 9132, which is 8700, 9000 and 9001 give -1148 and -1139.
        seaAfter(9132, -1143, 9001);
        seaAfter(9132, -1144, 9000);
        seaAfter(9132, -1148, 9000);
        seaAfter(9132, -1149, 9000);
        seaAfter(9132, -5000, 9000);
        seaAfter(5000, -5000, 9000);
    }

    private static void mostSea() {
        // 10799 and 10800 give 5536 and 5544.
        seaAfter(10132, 5539, 10799);
        seaAfter(10132, 5541, 10800);
        seaAfter(10132, 5544, 10800);
        seaAfter(10132, 5545, 10800);
        seaAfter(10132, 50000, 10800);
        seaAfter(11000, 50000, 10800);
    }

    private static void leastOfSeveral() {
        seaAfter(10132, 4, 10132);
        seaAfter(10132, -4, 10131);
        seaAfter(10132, -2083, 9882);
        seaAfter(10132, 5540, 10799);
        // 9001 and 9002 give -1139 and -1131.
        seaAfter(9132, -1135, 9001);
        AltimeterWatch x = new AltimeterWatch();
        x.setSea(10133);
        x.calibrate(4);
        CHECK.due("sea() when the greater one is the present one", x.sea(), 10132);
        AltimeterWatch station = new AltimeterWatch();
        station.setSea(10032);
        station.setStation(true);
        // At 1660, 9835 and 9836 give -834 and -826.
        CHECK.due("travel(1, 9932) at -830", station.travel(1, 9932), -834);
        CHECK.due("sea()", station.sea(), 9835);
    }

    private static void setSeaAtTheStation() {
        AltimeterWatch x = new AltimeterWatch();
        x.setStation(true);
        x.setSea(10032);
        CHECK.due("travel(1, 10032) at -830", x.travel(1, 10032), -830);
        CHECK.due("sea()", x.sea(), 9932);
        // The setting that there is counts too: at 5000 the altitude -830 is out of reach, and 43011 is the present one.
        x.travel(1, 5000);
        CHECK.due("setSea(9000)", x.setSea(9000), 9000);
        // 52756 - 9744; with 9000 it would be 42908
        CHECK.due("travel(1, 5010) at 43011", x.travel(1, 5010), 43012);
        CHECK.due("sea() at 43011", x.sea(), 9012);
    }

    private static void setSeaMovesTheBase() {
        AltimeterWatch x = at(10128);
        CHECK.due("base() below the threshold", x.base(), 0);
        x.setSea(10132);
        CHECK.due("base() after setSea(10132)", x.base(), 33);
        x.setSea(10133);
        CHECK.due("base() after setSea(10133)", x.base(), 41);
        x.setSea(9000);
        CHECK.due("base() after setSea(9000)", x.base(), 33 - 9848);
        CHECK.due("ascent()", x.ascent(), 0);
        CHECK.due("descent()", x.descent(), 0);
        x.setStation(true);
        x.setSea(10132);
        CHECK.due("base() at the station", x.base(), 33);
    }

    private static void setSeaIsNoCalibration() {
        AltimeterWatch x = new AltimeterWatch();
        x.setSea(9500);
        x.setStation(true);
        x.setSea(10500);
        CHECK.due("calibrations()", x.calibrations(), 0);
        CHECK.due("drift()", x.drift(), 0);
    }

    private static void calibrateRange() {
        AltimeterWatch x = new AltimeterWatch();
        CHECK.due("calibrate(-5000)", x.calibrate(-5000), 5000);
        CHECK.due("calibrate(50000)", x.calibrate(50000), x.drift() - 5000);
        CHECK.due("altitude()", x.altitude(), 5544);
        CHECK.refused("calibrate(-5001)", x, ARGUMENT, () -> x.calibrate(-5001));
        CHECK.refused("calibrate(50001)", x, ARGUMENT, () -> x.calibrate(50001));
    }

    private static void error() {
        AltimeterWatch x = at(10032);
        CHECK.due("calibrate(830)", x.calibrate(830), 0);
        CHECK.due("calibrate(831)", x.calibrate(831), -1);
        // 830 is still nearer to 831 than 838.
        CHECK.due("calibrate(829)", x.calibrate(829), 1);
        CHECK.due("calibrate(50000)", x.calibrate(50000), 830 - 50000);
        CHECK.due("calibrate(50000) out of reach", x.calibrate(50000), 830 + 5544 - 50000);
    }

    private static void calibrateAtTheStation() {
        AltimeterWatch x = at(9132);
        x.setStation(true);
        x.calibrate(50000);
        CHECK.due("altitude() as near as can be", x.altitude(), 14244);
        // With 50000 it would be 15114: 10695 and 10696 give 14242 and 14251.
        CHECK.due("travel(1, 9032)", x.travel(1, 9032), 14242);
        CHECK.due("sea()", x.sea(), 10695);
        CHECK.due("travel(1, 9132)", x.travel(1, 9132), 14244);
    }

    private static void calibrateMovesTheBase() {
        AltimeterWatch x = at(10128);
        x.calibrate(33);
        CHECK.due("base() after an error of 0", x.base(), 33);
        x.calibrate(50000);
        CHECK.due("base() as near as can be", x.base(), 33 + 5544);
        CHECK.due("ascent()", x.ascent(), 0);
        x.calibrate(33);
        CHECK.due("descent()", x.descent(), 0);
        x.setStation(true);
        x.calibrate(116);
        CHECK.due("base() at the station", x.base(), 116);
    }

    private static void drift() {
        AltimeterWatch x = new AltimeterWatch();
        CHECK.due("drift()", x.drift(), 0);
        x.calibrate(830);
        CHECK.due("drift() below 0", x.drift(), -830);
        x.calibrate(830);
        CHECK.due("drift() after an error of 0", x.drift(), -830);
        x.calibrate(-830);
        CHECK.due("drift() above 0", x.drift(), 830);
        Check.typed(x, "c0;c83").run();
        CHECK.due("drift() after a text", x.drift(), 830 - 830 - 83);
        x.undo();
        CHECK.due("drift() after undo()", x.drift(), 830);
    }

    private static void calibrations() {
        AltimeterWatch x = new AltimeterWatch();
        CHECK.due("calibrations()", x.calibrations(), 0);
        x.calibrate(0);
        CHECK.due("calibrations() after an error of 0", x.calibrations(), 1);
        x.calibrate(100);
        CHECK.due("calibrations() after two", x.calibrations(), 2);
        Check.typed(x, "c0;c83").run();
        CHECK.due("calibrations() after a text", x.calibrations(), 4);
    }
}
