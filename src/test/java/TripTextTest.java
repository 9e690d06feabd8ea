/** Promises 33 to 36: the buffer, its errors, and the trip texts that are run. */
public final class TripTextTest {
    private static final Check CHECK = new Check("TripTextTest");
    private static final Class<IllegalArgumentException> ARGUMENT = IllegalArgumentException.class;

    public static void main(String[] args) {
        append();
        appendToAFullBuffer();
        clearText();
        errors();
        numbersOfEveryKind();
        wholeTexts();
        textsThatAreNotWhole();
        charactersBehindTheText();
        runOfManyParts();
        runIsLikeTheCalls();
        runIsUndoneAsOneCall();
        fullBuffer();
        CHECK.end();
    }

    private static void append() {
        AltimeterWatch x = new AltimeterWatch();
        CHECK.due("append(33)", x.append(33), 1);
        CHECK.due("append(126)", x.append(126), 2);
        CHECK.due("append('s')", x.append('s'), 3);
        CHECK.due("savedStates()", x.savedStates(), 0);
        for (int code : new int[] {32, 127, 0, -1, 128, 33 + 65536, Integer.MIN_VALUE, Integer.MAX_VALUE}) {
            CHECK.refused("append(" + code + ")", x, ARGUMENT, () -> x.append(code));
        }
        CHECK.due("clearText()", x.clearText(), 3);
    }

    private static void appendToAFullBuffer() {
        AltimeterWatch x = new AltimeterWatch();
        for (int i = 1; i <= 60; i++) {
            CHECK.due("append('m') number " + i, x.append('m'), i);
        }
        CHECK.refused("append('m') number 61", x, IllegalStateException.class, () -> x.append('m'));
        CHECK.refused("append(127) number 61", x, ARGUMENT, () -> x.append(127));
        CHECK.refused("append(32) number 61", x, ARGUMENT, () -> x.append(32));
        CHECK.due("clearText()", x.clearText(), 60);
        CHECK.due("append('m') again", x.append('m'), 1);
    }

    private static void clearText() {
        AltimeterWatch x = new AltimeterWatch();
        CHECK.due("clearText() of nothing", x.clearText(), 0);
        Check.typed(x, "zz");
        CHECK.due("clearText()", x.clearText(), 2);
        CHECK.due("clearText() again", x.clearText(), 0);
        Check.typed(x, "s");
        CHECK.due("firstError() of a new text", x.firstError(), 1);
        CHECK.due("savedStates()", x.savedStates(), 0);
    }

    private static void errorAt(String text, int index) {
        AltimeterWatch x = Check.typed(new AltimeterWatch(), text);
        long before = x.digest();
        CHECK.due("firstError() of \"" + text + "\"", x.firstError(), index);
        CHECK.due("digest() after firstError()", x.digest(), before);
        CHECK.due("clearText() after firstError()", x.clearText(), text.length());
    }

    private static void errors() {
        String[] texts = {"", "s", "m", "c", "c5", "5", "5>", "5>5", "5>5000", "s;", "s;m;c0;1>10000", "c0;"};
        for (String text : texts) {
            errorAt(text, text.length());
        }
        String[] starts = {";", ">", "S", "x", "-5", "+5", "0", "0>5000", "!", "~", "C5", "a", "/", ":"};
        for (String text : starts) {
            errorAt(text, 0);
            errorAt("s;" + text, 2);
        }
        String[] seconds = {"ss", "s5", "mc", "c;", "c-", "cc", "c>", "5;", "5s", "s>", "m!;", "5/", "5:"};
        for (String text : seconds) {
            errorAt(text, 1);
            errorAt("120>11000;" + text + ";s", 11);
        }
        errorAt("5>s", 2);
        errorAt("5>;", 2);
        errorAt("5>>", 2);
        errorAt("5>0", 2);
        errorAt("5>5;", 3);
        errorAt("5>50;", 4);
        errorAt("5>500;", 5);
        errorAt("5>1000;", 6);
        errorAt("5>5000>", 6);
        errorAt("5>5000s", 6);
        errorAt("5>5000;;", 7);
        errorAt("c5;;", 3);
        errorAt("c50000s", 6);
        errorAt("sxyz", 1);
        errorAt("s;s;sx;0", 5);
    }

    /** Each number, and each beginning of a number, with what may follow it. */
    private static void numbersOfEveryKind() {
        String[] minutes = {"1", "9", "10", "12", "99", "100", "119", "120"};
        for (String text : minutes) {
            errorAt(text + ">", text.length() + 1);
            errorAt(text + ";", text.length());
        }
        String[] badMinutes = {"121", "129", "130", "200", "999", "1200", "990"};
        int[] badMinutesAt = {2, 2, 2, 2, 2, 3, 2};
        for (int i = 0; i < badMinutes.length; i++) {
            errorAt(badMinutes[i], badMinutesAt[i]);
        }
        String[] pressures = {"5000", "5001", "9999", "10000", "10132", "11000", "1", "10", "11", "100", "110", "1100",
            "1099", "5", "9", "59", "500", "999"};
        for (String text : pressures) {
            errorAt("7>" + text, 2 + text.length());
        }
        String[] badPressures = {"0", "2", "3", "4", "12", "19", "111", "119", "120", "1101", "1109", "11001", "11009",
            "50000", "99990", "100000", "110000", "4999"};
        int[] badPressuresAt = {0, 0, 0, 0, 1, 1, 2, 2, 1, 3, 3, 4, 4, 4, 4, 5, 5, 0};
        for (int i = 0; i < badPressures.length; i++) {
            errorAt("7>" + badPressures[i], 2 + badPressuresAt[i]);
        }
        String[] altitudes = {"0", "1", "9", "10", "50000", "49999", "5000", "9999", "40000", "500"};
        for (String text : altitudes) {
            errorAt("c" + text + ";", 2 + text.length());
        }
        String[] badAltitudes = {"00", "01", "50001", "50010", "51000", "60000", "99999", "100000", "500000"};
        int[] badAltitudesAt = {1, 1, 4, 4, 4, 4, 4, 5, 5};
        for (int i = 0; i < badAltitudes.length; i++) {
            errorAt("c" + badAltitudes[i], 1 + badAltitudesAt[i]);
        }
    }

    private static void wholeTexts() {
        String[] texts = {"s", "m", "c0", "c50000", "1>5000", "120>11000", "9>9999", "s;s", "m;c7;s;1>10000"};
        for (String text : texts) {
            AltimeterWatch x = Check.typed(new AltimeterWatch(), text);
            CHECK.due("run() of \"" + text + "\"", x.run(), x.altitude());
            CHECK.due("clearText() after it", x.clearText(), 0);
            CHECK.due("savedStates() after it", x.savedStates(), 1);
        }
    }

    private static void textsThatAreNotWhole() {
        String[] texts = {"", "c", "5", "120", "5>", "5>1", "5>10", "5>100", "5>1000", "5>1100", "5>500", "s;", "c5;",
            "5>5000;", "s;m;c", ";s", "sx", "s;;s", "5>5000;x", "c01", "5>4999", "121>5000", "s;m;5>500"};
        for (String text : texts) {
            AltimeterWatch x = Check.typed(new AltimeterWatch(), text);
            x.setMark();
            CHECK.refused("run() of \"" + text + "\"", x, ARGUMENT, () -> x.run());
            CHECK.due("marks() after it", x.marks(), 1);
            CHECK.due("clearText() after it", x.clearText(), text.length());
        }
    }

    /** What was in the buffer before it was emptied is no part of the next text. */
    private static void charactersBehindTheText() {
        AltimeterWatch x = Check.typed(new AltimeterWatch(), "c999");
        x.clearText();
        Check.typed(x, "c99").run();
        CHECK.due("drift() after \"c99\"", x.drift(), -99);
        Check.typed(x, "5>5000");
        x.clearText();
        Check.typed(x, "5>500");
        CHECK.refused("run() of \"5>500\"", x, ARGUMENT, () -> x.run());
        CHECK.due("firstError() of \"5>500\"", x.firstError(), 5);
    }

    private static void runOfManyParts() {
        AltimeterWatch x = Check.typed(new AltimeterWatch(), "10>10032;m;c1660;s;5>9932;m;s;2>9832");
        // std(9832) is 300 * 84 / 10, and the sea setting is 10132 after the station mode
        CHECK.due("run()", x.run(), 2520);
        CHECK.due("pressure()", x.pressure(), 9832);
        CHECK.due("minutes()", x.minutes(), 17);
        CHECK.due("isStation()", x.isStation(), false);
        CHECK.due("sea()", x.sea(), 10132);
        CHECK.due("drift()", x.drift(), -830);
        CHECK.due("calibrations()", x.calibrations(), 1);
        CHECK.due("marks()", x.marks(), 2);
        CHECK.due("markTime(0)", x.markTime(0), 10);
        CHECK.due("markAltitude(0)", x.markAltitude(0), 830);
        CHECK.due("markTime(1)", x.markTime(1), 15);
        CHECK.due("markAltitude(1)", x.markAltitude(1), 1660);
        CHECK.due("climbed(0, 1)", x.climbed(0, 1), 0);
        CHECK.due("ascent()", x.ascent(), 830 + 860);
        CHECK.due("logged()", x.logged(), 0);
        CHECK.due("savedStates()", x.savedStates(), 1);
    }

    private static void runIsLikeTheCalls() {
        AltimeterWatch x = Check.typed(new AltimeterWatch(), "s;40>10092;c500;m;20>9900;s;c0;7>11000;m");
        AltimeterWatch y = new AltimeterWatch();
        y.setStation(true);
        y.travel(40, 10092);
        y.calibrate(500);
        y.setMark();
        y.travel(20, 9900);
        y.setStation(false);
        y.calibrate(0);
        y.travel(7, 11000);
        y.setMark();
        CHECK.due("run()", x.run(), y.altitude());
        CHECK.due("digest()", x.digest(), y.digest());
        CHECK.due("alarms()", x.alarms(), 1);
    }

    private static void runIsUndoneAsOneCall() {
        AltimeterWatch x = new AltimeterWatch();
        x.travel(3, 10000);
        long before = x.digest();
        Check.typed(x, "s;m;c10;9>9000").run();
        CHECK.due("savedStates()", x.savedStates(), 2);
        CHECK.due("undo()", x.undo(), 1);
        CHECK.due("digest() after undo()", x.digest(), before);
        CHECK.due("clearText() after undo()", x.clearText(), 0);
        Check.typed(x, "s;m");
        x.undo();
        CHECK.due("clearText() when undo() leaves the buffer", x.clearText(), 3);
    }

    private static void fullBuffer() {
        StringBuilder text = new StringBuilder();
        for (int i = 0; i < 29; i++) {
            text.append("m;");
        }
        AltimeterWatch x = Check.typed(new AltimeterWatch(), text + "c9");
        CHECK.due("firstError() of 60 characters", x.firstError(), 60);
        CHECK.due("run() of 60 characters", x.run(), 8);
        CHECK.due("marks()", x.marks(), 10);
        AltimeterWatch y = Check.typed(new AltimeterWatch(), text + "m;");
        CHECK.due("firstError() of 60 characters", y.firstError(), 60);
        CHECK.refused("run() of 60 characters", y, ARGUMENT, () -> y.run());
    }
}
