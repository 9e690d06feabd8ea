/** Promises 14 to 22: the climb counter and marks. */
public final class ClimbsTest {
    private static final Check CHECK = new Check("ClimbsTest");
    private static final Class<IndexOutOfBoundsException> INDEX = IndexOutOfBoundsException.class;

    public static void main(String[] args) {
        setThreshold();
        thresholdIsReached();
        eachMinuteCounts();
        setMark();
        marksOfAll();
        noSuchMark();
        CHECK.end();
    }

    private static void setThreshold() {
        AltimeterWatch x = new AltimeterWatch();
        CHECK.due("setThreshold(10)", x.setThreshold(10), 50);
        CHECK.due("setThreshold(500)", x.setThreshold(500), 10);
        CHECK.due("setThreshold(500)", x.setThreshold(500), 500);
        CHECK.due("savedStates()", x.savedStates(), 3);
        for (int threshold : new int[] {9, 501, 0, -10, Integer.MIN_VALUE, Integer.MAX_VALUE}) {
            CHECK.refused("setThreshold(" + threshold + ")", x, IllegalArgumentException.class,
                () -> x.setThreshold(threshold));
        }
        x.undo();
        x.undo();
        CHECK.due("setThreshold(20) after undo()", x.setThreshold(20), 10);
    }

    private static void thresholdIsReached() {
        AltimeterWatch x = new AltimeterWatch();
        x.setThreshold(83);
        x.travel(1, 10123);
        CHECK.due("ascent() one step below the threshold", x.ascent(), 0);
        CHECK.due("base() one step below the threshold", x.base(), 0);
        x.travel(1, 10122);
        CHECK.due("ascent() at the threshold", x.ascent(), 83);
        CHECK.due("base() at the threshold", x.base(), 83);
        x.travel(1, 10131);
        CHECK.due("descent() below the threshold", x.descent(), 0);
        x.travel(1, 10132);
        CHECK.due("descent() at the threshold", x.descent(), 83);
        CHECK.due("base() at the threshold", x.base(), 0);
        CHECK.due("ascent() stays", x.ascent(), 83);
        x.travel(1, 10032);
        CHECK.due("ascent() adds up", x.ascent(), 913);
        x.travel(1, 10232);
        CHECK.due("descent() adds up", x.descent(), 83 + 1660);
        x.setThreshold(84);
        x.travel(1, 10222);
        CHECK.due("ascent() with a new threshold", x.ascent(), 913);
        x.undo();
        x.setThreshold(83);
        x.travel(1, 10222);
        CHECK.due("ascent() with the old threshold", x.ascent(), 996);
    }

    private static void eachMinuteCounts() {
        AltimeterWatch x = new AltimeterWatch();
        x.travel(10, 10122);
        // The altitude rises by 8 or 9 in a minute: 49, then 58 is the first one from 50 on, and 83 is not 50 higher.
        CHECK.due("ascent() of a slow climb", x.ascent(), 58);
        CHECK.due("base() of a slow climb", x.base(), 58);
        x.travel(20, 10142);
        // 8 is the first one that is 50 below 58, -49 is the first one that is 50 below 8, and -83 is not 50 below -49.
        CHECK.due("descent() of a slow descent", x.descent(), 50 + 57);
        CHECK.due("base() of a slow descent", x.base(), -49);
    }

    private static void setMark() {
        AltimeterWatch x = new AltimeterWatch();
        CHECK.due("setMark()", x.setMark(), 1);
        x.travel(10, 10032);
        CHECK.due("setMark()", x.setMark(), 2);
        x.travel(5, 10132);
        CHECK.due("setMark()", x.setMark(), 3);
        x.travel(5, 9932);
        CHECK.due("setMark()", x.setMark(), 4);
        CHECK.due("marks()", x.marks(), 4);
        CHECK.due("markTime(0)", x.markTime(0), 0);
        CHECK.due("markTime(1)", x.markTime(1), 10);
        CHECK.due("markTime(3)", x.markTime(3), 20);
        CHECK.due("markAltitude(1)", x.markAltitude(1), 830);
        CHECK.due("markAltitude(2)", x.markAltitude(2), 0);
        CHECK.due("markAltitude(3)", x.markAltitude(3), 1660);
        CHECK.due("climbed(0, 1)", x.climbed(0, 1), 830);
        CHECK.due("climbed(1, 2)", x.climbed(1, 2), 0);
        CHECK.due("climbed(0, 3)", x.climbed(0, 3), 2490);
        CHECK.due("climbed(3, 1)", x.climbed(3, 1), -1660);
        CHECK.due("climbed(2, 2)", x.climbed(2, 2), 0);
        x.undo();
        CHECK.due("marks() after undo()", x.marks(), 3);
        x.calibrate(0);
        CHECK.due("markAltitude(1) after calibrate(0)", x.markAltitude(1), 830);
    }

    private static void marksOfAll() {
        AltimeterWatch x = new AltimeterWatch();
        for (int i = 1; i <= 12; i++) {
            x.travel(i, 10132 - 100 * (i % 2));
            CHECK.due("setMark() number " + i, x.setMark(), Math.min(i, 10));
        }
        CHECK.due("marks()", x.marks(), 10);
        altitudesOfAll();
        for (int mark = 0; mark < 10; mark++) {
            int set = mark + 3;
            CHECK.due("markTime(" + mark + ")", x.markTime(mark), set * (set + 1) / 2);
            CHECK.due("markAltitude(" + mark + ")", x.markAltitude(mark), 830 * (set % 2));
            CHECK.due("climbed(0, " + mark + ")", x.climbed(0, mark), 830 * ((set + 1) / 2 - 2));
        }
    }

    private static void altitudesOfAll() {
        AltimeterWatch x = new AltimeterWatch();
        for (int i = 1; i <= 13; i++) {
            x.travel(1, 10132 - 10 * i);
            x.setMark();
        }
        for (int mark = 0; mark < 10; mark++) {
            CHECK.due("markAltitude(" + mark + ") of a climb", x.markAltitude(mark), 83 * (mark + 4));
        }
    }

    private static void noSuchMark() {
        AltimeterWatch x = new AltimeterWatch();
        refused(x, 0, new int[] {0, -1, 1, Integer.MIN_VALUE, Integer.MAX_VALUE});
        x.setMark();
        x.setMark();
        refused(x, 1, new int[] {2, -1, 3, 9, 10, Integer.MIN_VALUE, Integer.MAX_VALUE});
        for (int i = 0; i < 10; i++) {
            x.setMark();
        }
        refused(x, 9, new int[] {10, 11, -1, Integer.MIN_VALUE, Integer.MAX_VALUE});
    }

    private static void refused(AltimeterWatch x, int good, int[] bad) {
        for (int mark : bad) {
            CHECK.refused("markTime(" + mark + ")", x, INDEX, () -> x.markTime(mark));
            CHECK.refused("markAltitude(" + mark + ")", x, INDEX, () -> x.markAltitude(mark));
            CHECK.refused("climbed(" + mark + ", " + good + ")", x, INDEX, () -> x.climbed(mark, good));
            CHECK.refused("climbed(" + good + ", " + mark + ")", x, INDEX, () -> x.climbed(good, mark));
            CHECK.refused("climbed(" + mark + ", " + mark + ")", x, INDEX, () -> x.climbed(mark, mark));
        }
    }
}
