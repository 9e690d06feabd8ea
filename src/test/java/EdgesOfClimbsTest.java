/** The boundary cases of promises 14 to 22, a test for each sentence: the climb counter and the marks. */
public final class EdgesOfClimbsTest {
    private static final Check CHECK = new Check("EdgesOfClimbsTest");
    private static final Class<IllegalArgumentException> ARGUMENT = IllegalArgumentException.class;
    private static final Class<IndexOutOfBoundsException> INDEX = IndexOutOfBoundsException.class;

    public static void main(String[] args) {
        CHECK.sentence("a base altitude, which is 0 at first, an ascent, and a descent, both 0 at first, and a threshold "
            + "from 10 to 500, at first 50", EdgesOfClimbsTest::atFirst);
        CHECK.sentence("setThreshold: threshold: 10 to 500", EdgesOfClimbsTest::thresholdRange);
        CHECK.sentence("Returns the previous threshold.", EdgesOfClimbsTest::previousThreshold);
        CHECK.sentence("if h is at least the base altitude plus the threshold, the ascent increases by the difference",
            EdgesOfClimbsTest::atLeastTheThreshold);
        CHECK.sentence("If h is at most the base altitude minus the threshold, the descent increases by the difference",
            EdgesOfClimbsTest::atMostTheThreshold);
        CHECK.sentence("and the base altitude becomes h", EdgesOfClimbsTest::baseBecomesTheAltitude);
        CHECK.sentence("Otherwise nothing changes.", EdgesOfClimbsTest::belowTheThreshold);
        CHECK.sentence("When it takes an altitude", EdgesOfClimbsTest::takenAfterAMinute);
        CHECK.sentence("When the watch is calibrated, or the moving mode is switched on, the base altitude becomes the "
            + "present altitude, without any ascent or descent.", EdgesOfClimbsTest::baseBecomesThePresentAltitude);
        CHECK.sentence("A mark contains the time, the altitude, the ascent and the descent when it was set.",
            EdgesOfClimbsTest::contentOfAMark);
        CHECK.sentence("There are at most 10 marks, numbered from 0 in the order in which they were set",
            EdgesOfClimbsTest::tenMarks);
        CHECK.sentence("when one more is set, the oldest one is removed, and the numbers of the others decrease by 1",
            EdgesOfClimbsTest::oneMoreMark);
        CHECK.sentence("Returns the number of marks after the call.", EdgesOfClimbsTest::numberOfMarks);
        CHECK.sentence("markTime: Throws IndexOutOfBoundsException if there is no such mark", EdgesOfClimbsTest::markTime);
        CHECK.sentence("markAltitude: Throws IndexOutOfBoundsException if there is no such mark",
            EdgesOfClimbsTest::markAltitude);
        CHECK.sentence("climbed: Throws IndexOutOfBoundsException if there is no such mark",
            EdgesOfClimbsTest::climbedMarks);
        CHECK.sentence("Returns the ascent of the mark \"to\" minus the ascent of the mark \"from\".",
            EdgesOfClimbsTest::climbed);
        CHECK.end();
    }

    /** A watch at the base altitude 830 with the ascent 830. */
    private static AltimeterWatch at830(int threshold) {
        AltimeterWatch x = new AltimeterWatch();
        x.travel(1, 10032);
        x.setThreshold(threshold);
        return x;
    }

    /** A watch with marks after 1, 3, 6, 10 .. minutes, each one 83 higher than the one before. */
    private static AltimeterWatch withMarks(int number) {
        AltimeterWatch x = new AltimeterWatch();
        x.setThreshold(83);
        for (int i = 1; i <= number; i++) {
            x.travel(i, 10132 - 10 * i);
            x.setMark();
        }
        return x;
    }

    private static void atFirst() {
        AltimeterWatch x = new AltimeterWatch();
        CHECK.due("base()", x.base(), 0);
        CHECK.due("ascent()", x.ascent(), 0);
        CHECK.due("descent()", x.descent(), 0);
        CHECK.due("setThreshold(50)", x.setThreshold(50), 50);
        // 6 steps are 49, 7 steps are 58
        AltimeterWatch y = new AltimeterWatch();
        y.travel(1, 10126);
        CHECK.due("ascent() at 49", y.ascent(), 0);
        y.travel(1, 10125);
        CHECK.due("ascent() at 58", y.ascent(), 58);
    }

    private static void thresholdRange() {
        AltimeterWatch x = new AltimeterWatch();
        x.setThreshold(10);
        x.travel(1, 10131);
        CHECK.due("ascent() at 8 with the threshold 10", x.ascent(), 0);
        x.travel(1, 10130);
        CHECK.due("ascent() at 16 with the threshold 10", x.ascent(), 16);
        x.setThreshold(500);
        x.travel(1, 10070);
        CHECK.due("ascent() at 16 + 498 with the threshold 500", x.ascent(), 16);
        x.travel(1, 10069);
        CHECK.due("ascent() at 16 + 506 with the threshold 500", x.ascent(), 522);
        CHECK.refused("setThreshold(9)", x, ARGUMENT, () -> x.setThreshold(9));
        CHECK.refused("setThreshold(501)", x, ARGUMENT, () -> x.setThreshold(501));
        CHECK.due("setThreshold(500) after the refused ones", x.setThreshold(500), 500);
    }

    private static void previousThreshold() {
        AltimeterWatch x = new AltimeterWatch();
        CHECK.due("setThreshold(10)", x.setThreshold(10), 50);
        CHECK.due("setThreshold(500)", x.setThreshold(500), 10);
        CHECK.due("setThreshold(500)", x.setThreshold(500), 500);
        x.undo();
        x.undo();
        CHECK.due("setThreshold(50) after undo()", x.setThreshold(50), 10);
    }

    private static void atLeastTheThreshold() {
        AltimeterWatch x = at830(83);
        x.travel(1, 10022);
        CHECK.due("ascent() at 830 + 83", x.ascent(), 913);
        CHECK.due("descent() at 830 + 83", x.descent(), 0);
        AltimeterWatch one = at830(82);
        one.travel(1, 10022);
        CHECK.due("ascent() at 830 + 82 + 1", one.ascent(), 913);
        AltimeterWatch less = at830(84);
        less.travel(1, 10022);
        CHECK.due("ascent() at 830 + 84 - 1", less.ascent(), 830);
    }

    private static void atMostTheThreshold() {
        AltimeterWatch x = at830(83);
        x.travel(1, 10042);
        CHECK.due("descent() at 830 - 83", x.descent(), 83);
        CHECK.due("ascent() at 830 - 83", x.ascent(), 830);
        AltimeterWatch one = at830(82);
        one.travel(1, 10042);
        CHECK.due("descent() at 830 - 82 - 1", one.descent(), 83);
        AltimeterWatch less = at830(84);
        less.travel(1, 10042);
        CHECK.due("descent() at 830 - 84 + 1", less.descent(), 0);
    }

    private static void baseBecomesTheAltitude() {
        AltimeterWatch x = at830(83);
        x.travel(1, 10022);
        CHECK.due("base() at 830 + 83", x.base(), 913);
        x.travel(1, 9132);
        CHECK.due("base() far above the threshold", x.base(), 8700);
        CHECK.due("ascent() far above the threshold", x.ascent(), 8700);
        x.travel(1, 10232);
        CHECK.due("base() far below the threshold", x.base(), -830);
        CHECK.due("descent() far below the threshold", x.descent(), 8700 + 830);
        x.travel(1, 10242);
        CHECK.due("base() at -830 - 83", x.base(), -913);
    }

    private static void belowTheThreshold() {
        AltimeterWatch x = at830(84);
        x.travel(1, 10022);
        CHECK.due("base() at 830 + 83", x.base(), 830);
        x.travel(1, 10042);
        CHECK.due("base() at 830 - 83", x.base(), 830);
        x.travel(1, 10032);
        CHECK.due("base() at 830", x.base(), 830);
        CHECK.due("ascent()", x.ascent(), 830);
        CHECK.due("descent()", x.descent(), 0);
    }

    private static void takenAfterAMinute() {
        AltimeterWatch x = new AltimeterWatch();
        x.travel(1, 10128);
        x.setThreshold(10);
        CHECK.due("ascent() at 33 without a minute", x.ascent(), 0);
        x.travel(1, 10128);
        CHECK.due("ascent() at 33 after a minute", x.ascent(), 33);
        AltimeterWatch y = new AltimeterWatch();
        y.setThreshold(500);
        // A step of 498 is not enough, two of them are.
        y.travel(3, 9952);
        CHECK.due("ascent() after 498, 996, 1494", y.ascent(), 996);
        CHECK.due("base() after 498, 996, 1494", y.base(), 996);
    }

    private static void baseBecomesThePresentAltitude() {
        AltimeterWatch calibrated = at830(500);
        calibrated.travel(1, 10022);
        calibrated.calibrate(1743);
        CHECK.due("base() when the watch is calibrated", calibrated.base(), 1743);
        AltimeterWatch x = at830(500);
        x.travel(1, 10022);
        x.setStation(true);
        CHECK.due("base() when the station mode is switched on", x.base(), 830);
        x.travel(1, 5000);
        CHECK.due("base() at the station", x.base(), 830);
        x.setStation(false);
        CHECK.due("base() when the moving mode is switched on", x.base(), 52859 - 9848);
        CHECK.due("ascent()", x.ascent(), 830);
        CHECK.due("descent()", x.descent(), 0);
        Check.typed(x, "s;1>10132;s").run();
        CHECK.due("base() when a text switches the moving mode on", x.base(), x.altitude());
    }

    private static void contentOfAMark() {
        AltimeterWatch x = at830(83);
        x.setMark();
        x.travel(4, 9132);
        x.setMark();
        x.calibrate(0);
        x.travel(5, 8132);
        x.setSea(9000);
        CHECK.due("markTime(0)", x.markTime(0), 1);
        CHECK.due("markAltitude(0)", x.markAltitude(0), 830);
        CHECK.due("markTime(1)", x.markTime(1), 5);
        CHECK.due("markAltitude(1)", x.markAltitude(1), 8700);
        CHECK.due("climbed(0, 1)", x.climbed(0, 1), 8700 - 830);
        AltimeterWatch y = new AltimeterWatch();
        y.setMark();
        CHECK.due("markTime(0) of a new watch", y.markTime(0), 0);
        CHECK.due("markAltitude(0) of a new watch", y.markAltitude(0), 0);
    }

    private static void tenMarks() {
        CHECK.due("marks()", withMarks(0).marks(), 0);
        CHECK.due("marks() after 9", withMarks(9).marks(), 9);
        AltimeterWatch x = withMarks(10);
        CHECK.due("marks() after 10", x.marks(), 10);
        for (int mark = 0; mark < 10; mark++) {
            CHECK.due("markTime(" + mark + ")", x.markTime(mark), (mark + 1) * (mark + 2) / 2);
            CHECK.due("markAltitude(" + mark + ")", x.markAltitude(mark), 83 * (mark + 1));
        }
    }

    private static void oneMoreMark() {
        AltimeterWatch x = withMarks(11);
        CHECK.due("marks() after 11", x.marks(), 10);
        for (int mark = 0; mark < 10; mark++) {
            CHECK.due("markTime(" + mark + ")", x.markTime(mark), (mark + 2) * (mark + 3) / 2);
            CHECK.due("markAltitude(" + mark + ")", x.markAltitude(mark), 83 * (mark + 2));
            CHECK.due("climbed(0, " + mark + ")", x.climbed(0, mark), 83 * mark);
        }
        x.undo();
        CHECK.due("marks() after undo()", x.marks(), 10);
        CHECK.due("markTime(0) after undo()", x.markTime(0), 1);
        CHECK.due("markTime(9) after undo()", x.markTime(9), 55);
        CHECK.due("markTime(9) after 25", withMarks(25).markTime(9), 25 * 26 / 2);
        CHECK.due("markTime(0) after 25", withMarks(25).markTime(0), 16 * 17 / 2);
    }

    private static void numberOfMarks() {
        AltimeterWatch x = new AltimeterWatch();
        for (int i = 1; i <= 10; i++) {
            CHECK.due("setMark() number " + i, x.setMark(), i);
        }
        CHECK.due("setMark() number 11", x.setMark(), 10);
        CHECK.due("setMark() number 12", x.setMark(), 10);
    }

    private static void markTime() {
        AltimeterWatch none = withMarks(0);
        CHECK.refused("markTime(0) without marks", none, INDEX, () -> none.markTime(0));
        AltimeterWatch x = withMarks(3);
        CHECK.due("markTime(0)", x.markTime(0), 1);
        CHECK.due("markTime(2)", x.markTime(2), 6);
        CHECK.refused("markTime(-1)", x, INDEX, () -> x.markTime(-1));
        CHECK.refused("markTime(3)", x, INDEX, () -> x.markTime(3));
        AltimeterWatch full = withMarks(11);
        CHECK.due("markTime(9)", full.markTime(9), 66);
        CHECK.refused("markTime(10)", full, INDEX, () -> full.markTime(10));
    }

    private static void markAltitude() {
        AltimeterWatch none = withMarks(0);
        CHECK.refused("markAltitude(0) without marks", none, INDEX, () -> none.markAltitude(0));
        AltimeterWatch x = withMarks(3);
        CHECK.due("markAltitude(0)", x.markAltitude(0), 83);
        CHECK.due("markAltitude(2)", x.markAltitude(2), 249);
        CHECK.refused("markAltitude(-1)", x, INDEX, () -> x.markAltitude(-1));
        CHECK.refused("markAltitude(3)", x, INDEX, () -> x.markAltitude(3));
        AltimeterWatch full = withMarks(11);
        CHECK.due("markAltitude(9)", full.markAltitude(9), 913);
        CHECK.refused("markAltitude(10)", full, INDEX, () -> full.markAltitude(10));
    }

    private static void climbedMarks() {
        AltimeterWatch none = withMarks(0);
        CHECK.refused("climbed(0, 0) without marks", none, INDEX, () -> none.climbed(0, 0));
        AltimeterWatch x = withMarks(3);
        CHECK.due("climbed(0, 2)", x.climbed(0, 2), 166);
        CHECK.refused("climbed(-1, 2)", x, INDEX, () -> x.climbed(-1, 2));
        CHECK.refused("climbed(0, -1)", x, INDEX, () -> x.climbed(0, -1));
        CHECK.refused("climbed(3, 0)", x, INDEX, () -> x.climbed(3, 0));
        CHECK.refused("climbed(2, 3)", x, INDEX, () -> x.climbed(2, 3));
        AltimeterWatch full = withMarks(11);
        CHECK.due("climbed(9, 9)", full.climbed(9, 9), 0);
        CHECK.refused("climbed(9, 10)", full, INDEX, () -> full.climbed(9, 10));
        CHECK.refused("climbed(10, 9)", full, INDEX, () -> full.climbed(10, 9));
    }

    private static void climbed() {
        AltimeterWatch x = at830(83);
        x.setMark();
        x.travel(1, 10132);
        x.setMark();
        x.travel(1, 9932);
        x.setMark();
        CHECK.due("climbed(0, 1) of a descent", x.climbed(0, 1), 0);
        CHECK.due("climbed(1, 2)", x.climbed(1, 2), 1660);
        CHECK.due("climbed(2, 0) backwards", x.climbed(2, 0), -1660);
        CHECK.due("climbed(2, 2) of one mark", x.climbed(2, 2), 0);
    }
}
