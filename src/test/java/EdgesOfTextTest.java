/** The boundary cases of promises 33 to 36, a test for each sentence: the buffer, its errors, trip texts that are run. */
public final class EdgesOfTextTest {
    private static final Check CHECK = new Check("EdgesOfTextTest");
    private static final Class<IllegalArgumentException> ARGUMENT = IllegalArgumentException.class;
    private static final Class<IllegalStateException> STATE = IllegalStateException.class;

    public static void main(String[] args) {
        CHECK.sentence("The buffer contains at most 60 characters", EdgesOfTextTest::sixtyCharacters);
        CHECK.sentence("and is empty at first", EdgesOfTextTest::emptyAtFirst);
        CHECK.sentence("code: a character code, 33 to 126", EdgesOfTextTest::codes);
        CHECK.sentence("Returns the new length of the buffer.", EdgesOfTextTest::newLength);
        CHECK.sentence("clearText: Returns the length that it had.", EdgesOfTextTest::lengthThatItHad);
        CHECK.sentence("A trip text is one or more parts with \";\" between them.", EdgesOfTextTest::oneOrMoreParts);
        CHECK.sentence("a number of minutes from 1 to 120", EdgesOfTextTest::minutesOfAText);
        CHECK.sentence("and a pressure from 5000 to 11000 (like travel())", EdgesOfTextTest::pressureOfAText);
        CHECK.sentence("\"s\" (switches the mode to the other one)", EdgesOfTextTest::switchOfAText);
        CHECK.sentence("\"m\" (like setMark())", EdgesOfTextTest::markOfAText);
        CHECK.sentence("\"c\" and an altitude from 0 to 50000 (like calibrate())", EdgesOfTextTest::altitudeOfAText);
        CHECK.sentence("Numbers have no leading zeros.", EdgesOfTextTest::leadingZeros);
        CHECK.sentence("A character of the buffer is an error if no trip text, however long, begins with the characters "
            + "before it and this character.", EdgesOfTextTest::howeverLong);
        CHECK.sentence("Returns the index of the first character that is an error", EdgesOfTextTest::firstOfTheErrors);
        CHECK.sentence("the length of the buffer if there is none (also if the buffer is not a complete trip text)",
            EdgesOfTextTest::noError);
        CHECK.sentence("Executes the parts of the trip text in the buffer", EdgesOfTextTest::partsInOrder);
        CHECK.sentence("and empties the buffer", EdgesOfTextTest::emptied);
        CHECK.sentence("Undoable, as one call.", EdgesOfTextTest::undoableAsOneCall);
        CHECK.sentence("run: Returns the altitude after the call.", EdgesOfTextTest::altitudeAfterRun);
        CHECK.sentence("Throws IllegalArgumentException if the buffer is not a complete trip text (the buffer stays)",
            EdgesOfTextTest::notComplete);
        CHECK.end();
    }

    private static AltimeterWatch typed(String text) {
        return Check.typed(new AltimeterWatch(), text);
    }

    private static AltimeterWatch ran(String text) {
        AltimeterWatch x = typed(text);
        CHECK.due("firstError() of \"" + text + "\"", x.firstError(), text.length());
        x.run();
        return x;
    }

    private static void errorAt(String text, int index) {
        AltimeterWatch x = typed(text);
        CHECK.due("firstError() of \"" + text + "\"", x.firstError(), index);
        if (index < text.length()) {
            CHECK.refused("run() of \"" + text + "\"", x, ARGUMENT, x::run);
        }
    }

    private static void sixtyCharacters() {
        AltimeterWatch x = new AltimeterWatch();
        for (int i = 0; i < 29; i++) {
            Check.typed(x, "m;");
        }
        CHECK.due("append('c') number 59", x.append('c'), 59);
        CHECK.due("append('9') number 60", x.append('9'), 60);
        CHECK.refused("append('9') number 61", x, STATE, () -> x.append('9'));
        CHECK.due("firstError() of 60", x.firstError(), 60);
        x.run();
        CHECK.due("drift() after the text of 60, whose last part is c9", x.drift(), -9);
        CHECK.due("append('9') after run()", x.append('9'), 1);
    }

    private static void emptyAtFirst() {
        AltimeterWatch x = new AltimeterWatch();
        CHECK.due("firstError()", x.firstError(), 0);
        CHECK.refused("run()", x, ARGUMENT, x::run);
        CHECK.due("clearText()", x.clearText(), 0);
        CHECK.due("append('s')", x.append('s'), 1);
    }

    private static void codes() {
        AltimeterWatch x = new AltimeterWatch();
        CHECK.due("append(33)", x.append(33), 1);
        CHECK.due("append(126)", x.append(126), 2);
        CHECK.refused("append(32)", x, ARGUMENT, () -> x.append(32));
        CHECK.refused("append(127)", x, ARGUMENT, () -> x.append(127));
        for (int code = 33; code <= 126; code++) {
            AltimeterWatch y = new AltimeterWatch();
            CHECK.due("append(" + code + ")", y.append(code), 1);
            boolean begins = "123456789smc".indexOf((char) code) >= 0;
            CHECK.due("firstError() of the code " + code, y.firstError(), begins ? 1 : 0);
        }
    }

    private static void newLength() {
        AltimeterWatch x = new AltimeterWatch();
        for (int length = 1; length <= 60; length++) {
            CHECK.due("append('~') number " + length, x.append('~'), length);
        }
    }

    private static void lengthThatItHad() {
        AltimeterWatch x = new AltimeterWatch();
        CHECK.due("clearText() of 0", x.clearText(), 0);
        x.append('~');
        CHECK.due("clearText() of 1", x.clearText(), 1);
        CHECK.due("clearText() after it", x.clearText(), 0);
        for (int length = 1; length <= 60; length++) {
            x.append('m');
        }
        CHECK.due("clearText() of 60", x.clearText(), 60);
        CHECK.due("firstError() after it", x.firstError(), 0);
        CHECK.due("append('m') after it", x.append('m'), 1);
    }

    private static void oneOrMoreParts() {
        CHECK.due("marks() after one part", ran("m").marks(), 1);
        CHECK.due("marks() after two parts", ran("m;m").marks(), 2);
        CHECK.due("marks() after ten parts", ran("m;m;m;m;m;m;m;m;m;m").marks(), 10);
        errorAt(";", 0);
        errorAt(";m", 0);
        errorAt("m;;m", 2);
        errorAt("mm", 1);
        errorAt("m,m", 1);
        AltimeterWatch x = typed("m;");
        CHECK.due("firstError() of \"m;\"", x.firstError(), 2);
        CHECK.refused("run() of \"m;\"", x, ARGUMENT, x::run);
    }

    private static void minutesOfAText() {
        CHECK.due("minutes() after 1", ran("1>9000").minutes(), 1);
        CHECK.due("minutes() after 9", ran("9>9000").minutes(), 9);
        CHECK.due("minutes() after 10", ran("10>9000").minutes(), 10);
        CHECK.due("minutes() after 99", ran("99>9000").minutes(), 99);
        CHECK.due("minutes() after 100", ran("100>9000").minutes(), 100);
        CHECK.due("minutes() after 120", ran("120>9000").minutes(), 120);
        errorAt("0>9000", 0);
        errorAt("121>9000", 2);
        errorAt("130>9000", 2);
        errorAt("200>9000", 2);
        errorAt("1000>9000", 3);
        errorAt("-1>9000", 0);
        errorAt(">9000", 0);
        errorAt("5;9000", 1);
    }

    private static void pressureOfAText() {
        CHECK.due("pressure() after 5000", ran("1>5000").pressure(), 5000);
        CHECK.due("pressure() after 9999", ran("1>9999").pressure(), 9999);
        CHECK.due("pressure() after 10000", ran("1>10000").pressure(), 10000);
        CHECK.due("pressure() after 11000", ran("1>11000").pressure(), 11000);
        errorAt("1>4999", 2);
        errorAt("1>11001", 6);
        errorAt("1>11010", 5);
        errorAt("1>11100", 4);
        errorAt("1>12000", 3);
        errorAt("1>50000", 6);
        errorAt("1>100000", 7);
        errorAt("1>-5000", 2);
        errorAt("1>;m", 2);
        errorAt("1>500;m", 5);
        errorAt("1>1100;m", 6);
        AltimeterWatch x = new AltimeterWatch();
        AltimeterWatch y = Check.typed(new AltimeterWatch(), "7>9000");
        CHECK.due("run() of a trip", y.run(), x.travel(7, 9000));
        CHECK.due("digest() after it", y.digest(), x.digest());
    }

    private static void switchOfAText() {
        AltimeterWatch x = ran("s");
        CHECK.due("isStation() after \"s\"", x.isStation(), true);
        x.travel(3, 9000);
        Check.typed(x, "s").run();
        CHECK.due("isStation() after \"s\" again", x.isStation(), false);
        CHECK.due("logged() after \"s\" again", x.logged(), 0);
        CHECK.due("isStation() after \"s;s\"", ran("s;s").isStation(), false);
        CHECK.due("isStation() after \"s;s;s\"", ran("s;s;s").isStation(), true);
    }

    private static void markOfAText() {
        AltimeterWatch x = ran("m;3>10032;m");
        CHECK.due("marks()", x.marks(), 2);
        CHECK.due("markTime(0)", x.markTime(0), 0);
        CHECK.due("markTime(1)", x.markTime(1), 3);
        CHECK.due("markAltitude(1)", x.markAltitude(1), 830);
        AltimeterWatch more = ran("1>10032;m;m;m;m;m;m;m;m;m;m;2>10132;m");
        CHECK.due("marks() after eleven", more.marks(), 10);
        CHECK.due("markTime(8) after eleven", more.markTime(8), 1);
        CHECK.due("markTime(9) after eleven", more.markTime(9), 3);
    }

    private static void altitudeOfAText() {
        CHECK.due("drift() after c0", ran("1>10032;c0").drift(), 830);
        CHECK.due("drift() after c9", ran("c9").drift(), -9);
        CHECK.due("drift() after c10", ran("c10").drift(), -10);
        CHECK.due("drift() after c9999", ran("c9999").drift(), -9999);
        CHECK.due("drift() after c50000", ran("c50000").drift(), -50000);
        CHECK.due("sea() after c50000", ran("c50000").sea(), 10800);
        errorAt("c50001", 5);
        errorAt("c50010", 5);
        errorAt("c51000", 5);
        errorAt("c60000", 5);
        errorAt("c100000", 6);
        errorAt("c-1", 1);
        errorAt("c;m", 1);
        errorAt("c>5", 1);
        AltimeterWatch x = new AltimeterWatch();
        x.setStation(true);
        x.calibrate(830);
        CHECK.due("digest() after c830", ran("s;c830").digest(), x.digest());
    }

    private static void leadingZeros() {
        errorAt("01>9000", 0);
        errorAt("00>9000", 0);
        errorAt("1>05000", 2);
        errorAt("1>00", 2);
        errorAt("c00", 2);
        errorAt("c01", 2);
        errorAt("c0000", 2);
        errorAt("m;c05", 4);
        CHECK.due("drift() after c0", ran("c0").drift(), 0);
        CHECK.due("drift() after c10000", ran("c10000").drift(), -10000);
    }

    private static void howeverLong() {
        String full = "m;m;m;m;m;m;m;m;m;m;m;m;m;m;m;m;m;m;m;m;m;m;m;m;m;m;m;m;";
        // A trip text would go on behind the 60 characters that there is room for.
        errorAt(full + "m;m;", 60);
        errorAt(full + "m;12", 60);
        errorAt(full + "m;1>", 60);
        errorAt(full + "5>11", 60);
        errorAt(full + "m;m5", 59);
        errorAt(full + "5>12", 59);
        AltimeterWatch x = typed(full + "5>11");
        CHECK.refused("run() of a text that would go on", x, ARGUMENT, x::run);
        // What begins no number of the range, though it is less than its end.
        errorAt("13", 2);
        errorAt("1>4", 2);
        errorAt("1>49", 2);
        errorAt("1>12", 3);
        errorAt("1>111", 4);
        errorAt("1>1101", 5);
        errorAt("c50001", 5);
    }

    private static void firstOfTheErrors() {
        errorAt("xyz", 0);
        errorAt("mxm", 1);
        errorAt("m;xm;x", 2);
        errorAt("m;5>9000;c7;sx", 13);
        errorAt("5>9000x;m", 6);
        errorAt("130;130", 2);
    }

    private static void noError() {
        String[] texts = {"", "m", "s", "c", "c0", "c5", "c50000", "1", "12", "120", "5>", "5>5", "5>50", "5>500", "5>5000",
            "5>1", "5>11", "5>110", "5>1100", "5>11000", "m;", "m;c", "m;5>9", "c50000;"};
        for (String text : texts) {
            errorAt(text, text.length());
        }
    }

    private static void partsInOrder() {
        AltimeterWatch x = ran("10>10032;m;c1660;s;40>9932;m;s;2>9832;m");
        CHECK.due("markTime(0)", x.markTime(0), 10);
        CHECK.due("markAltitude(0) before c1660", x.markAltitude(0), 830);
        CHECK.due("markAltitude(1) at the station", x.markAltitude(1), 1660);
        CHECK.due("markTime(1)", x.markTime(1), 50);
        CHECK.due("alarms() at the station", x.alarms(), 1);
        CHECK.due("drift()", x.drift(), -830);
        CHECK.due("base() when it moves again", x.base(), 2520);
        CHECK.due("climbed(1, 2)", x.climbed(1, 2), 860);
        CHECK.due("minutes()", x.minutes(), 52);
    }

    private static void emptied() {
        AltimeterWatch x = ran("c999");
        CHECK.due("firstError()", x.firstError(), 0);
        CHECK.refused("run() once more", x, ARGUMENT, x::run);
        CHECK.due("clearText()", x.clearText(), 0);
        Check.typed(x, "c99").run();
        // 996 is the nearest one to 999.
        CHECK.due("drift() after c999 and c99", x.drift(), -999 + 996 - 99);
    }

    private static void undoableAsOneCall() {
        AltimeterWatch x = new AltimeterWatch();
        x.travel(3, 10000);
        long before = x.digest();
        Check.typed(x, "s;m;c10;9>9000;s;m;c5;m").run();
        CHECK.due("savedStates()", x.savedStates(), 2);
        CHECK.due("undo()", x.undo(), 1);
        CHECK.due("digest() after undo()", x.digest(), before);
        CHECK.due("clearText() after undo()", x.clearText(), 0);
        Check.typed(x, "s;s").run();
        CHECK.due("savedStates() when nothing changed", x.savedStates(), 2);
        for (int i = 0; i < 6; i++) {
            Check.typed(x, "m").run();
        }
        CHECK.due("savedStates() after many texts", x.savedStates(), 6);
    }

    private static void altitudeAfterRun() {
        CHECK.due("run() of a trip", typed("5>10032").run(), 830);
        CHECK.due("run() of two trips", typed("5>10032;5>11000").run(), -7204);
        CHECK.due("run() of c830", typed("c830").run(), 830);
        CHECK.due("run() of c50000", typed("c50000").run(), 5544);
        CHECK.due("run() of m", typed("m").run(), 0);
    }

    private static void notComplete() {
        String[] texts = {"", "c", "5", "5>", "5>5", "5>500", "5>1100", "m;", "s;m;c5;9>9000;", "s;m;c5;9>9000;c"};
        for (String text : texts) {
            AltimeterWatch x = typed(text);
            x.setMark();
            CHECK.refused("run() of \"" + text + "\"", x, ARGUMENT, x::run);
            CHECK.due("marks() after it", x.marks(), 1);
            CHECK.due("clearText() after it", x.clearText(), text.length());
        }
        AltimeterWatch x = typed("c");
        CHECK.refused("run() of \"c\"", x, ARGUMENT, x::run);
        x.append('5');
        x.run();
        CHECK.due("drift() when the text was completed", x.drift(), -5);
    }
}
