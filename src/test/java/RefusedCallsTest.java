/**
 * "A call that throws an exception changes nothing": each call that may be refused is refused in each situation where it can
 * be, with arguments just outside the range and far outside it, and leaves everything that a watch can bring to light as it
 * was. "If more than one exception applies to a call, the one that is listed first in its throws clause is thrown."
 */
public final class RefusedCallsTest {
    private static final Check CHECK = new Check("RefusedCallsTest");
    private static final Class<IllegalArgumentException> ARGUMENT = IllegalArgumentException.class;
    private static final Class<IllegalStateException> STATE = IllegalStateException.class;
    private static final Class<IndexOutOfBoundsException> INDEX = IndexOutOfBoundsException.class;

    /** A call with one argument. */
    private interface CallWith {
        void of(AltimeterWatch watch, int argument);
    }

    public static void main(String[] args) {
        CHECK.sentence("travel: if an argument is out of range", RefusedCallsTest::travel);
        CHECK.sentence("standard: if pressure is out of range", RefusedCallsTest::standard);
        CHECK.sentence("setSea: if pressure is out of range", RefusedCallsTest::setSea);
        CHECK.sentence("calibrate: if altitude is out of range", RefusedCallsTest::calibrate);
        CHECK.sentence("setThreshold: if threshold is out of range", RefusedCallsTest::setThreshold);
        CHECK.sentence("markTime: if there is no such mark", RefusedCallsTest::markTime);
        CHECK.sentence("markAltitude: if there is no such mark", RefusedCallsTest::markAltitude);
        CHECK.sentence("climbed: if there is no such mark", RefusedCallsTest::climbed);
        CHECK.sentence("setAlarm: if limit is out of range", RefusedCallsTest::setAlarm);
        CHECK.sentence("altitudeAfter: if an argument is out of range", RefusedCallsTest::altitudeAfter);
        CHECK.sentence("ascentIn: if an argument is out of range", RefusedCallsTest::ascentIn);
        CHECK.sentence("pressureAt: if altitude is out of range", RefusedCallsTest::pressureAt);
        CHECK.sentence("minutesToAlarm: if perMinute is out of range", RefusedCallsTest::minutesToAlarm);
        CHECK.sentence("append: if code is out of range", RefusedCallsTest::appendOfAWrongCode);
        CHECK.sentence("append: if the buffer contains 60 characters", RefusedCallsTest::appendToAFullBuffer);
        CHECK.sentence("append: the one that is listed first", RefusedCallsTest::appendOfAWrongCodeToAFullBuffer);
        CHECK.sentence("run: if the buffer is not a complete trip text (the buffer stays)", RefusedCallsTest::run);
        CHECK.sentence("undo: if no state is saved", RefusedCallsTest::undo);
        CHECK.sentence("store: if there is no such memory", RefusedCallsTest::store);
        CHECK.sentence("recall: if there is no such memory", RefusedCallsTest::recallOfNoMemory);
        CHECK.sentence("recall: if the memory is empty", RefusedCallsTest::recallOfAnEmptyMemory);
        CHECK.end();
    }

    /** The call throws an exception of exactly this class, and then everything is as it is without the call. */
    private static void refused(String call, Situation situation, Situation.Call before,
            Class<? extends RuntimeException> exception, Situation.Call made) {
        String told = call + " when " + situation;
        AltimeterWatch x = situation.makeAnd(before);
        CHECK.due(told + " throws", Check.thrownBy(() -> made.of(x)), exception.getName());
        String after = Probe.everything(() -> {
            AltimeterWatch watch = situation.makeAnd(before);
            Check.thrownBy(() -> made.of(watch));
            return watch;
        });
        CHECK.due(told + " leaves", after, Probe.everything(() -> situation.makeAnd(before)));
    }

    private static void refused(String call, Situation situation, Class<? extends RuntimeException> exception,
            Situation.Call made) {
        refused(call, situation, watch -> { }, exception, made);
    }

    /** All numbers but those from least to most are refused in all situations. */
    private static void refusedOutside(String name, int least, int most, CallWith call) {
        int[] arguments = {least - 1, most + 1, -least - most - 1, Integer.MIN_VALUE, Integer.MAX_VALUE};
        for (Situation situation : Situation.values()) {
            for (int argument : arguments) {
                refused(name + " of " + argument, situation, ARGUMENT, watch -> call.of(watch, argument));
            }
        }
    }

    private static void refusedMarks(String name, CallWith call) {
        for (Situation situation : Situation.values()) {
            int marks = situation.make().marks();
            for (int mark : new int[] {-1, marks, marks + 1, Integer.MIN_VALUE, Integer.MAX_VALUE}) {
                refused(name + " of " + mark, situation, INDEX, watch -> call.of(watch, mark));
            }
        }
    }

    private static void travel() {
        refusedOutside("travel(minutes, 9000)", 1, 120, (watch, minutes) -> watch.travel(minutes, 9000));
        refusedOutside("travel(60, pressure)", 5000, 11000, (watch, pressure) -> watch.travel(60, pressure));
        refusedOutside("travel(pressure, pressure)", 5000, 11000, (watch, pressure) -> watch.travel(pressure, pressure));
    }

    private static void standard() {
        refusedOutside("standard", 5000, 11000, AltimeterWatch::standard);
    }

    private static void setSea() {
        refusedOutside("setSea", 9000, 10800, AltimeterWatch::setSea);
    }

    private static void calibrate() {
        refusedOutside("calibrate", -5000, 50000, AltimeterWatch::calibrate);
    }

    private static void setThreshold() {
        refusedOutside("setThreshold", 10, 500, AltimeterWatch::setThreshold);
    }

    private static void markTime() {
        refusedMarks("markTime", AltimeterWatch::markTime);
    }

    private static void markAltitude() {
        refusedMarks("markAltitude", AltimeterWatch::markAltitude);
    }

    private static void climbed() {
        refusedMarks("climbed(mark, 0)", (watch, mark) -> watch.climbed(mark, 0));
        refusedMarks("climbed(0, mark)", (watch, mark) -> watch.climbed(0, mark));
        refusedMarks("climbed(mark, mark)", (watch, mark) -> watch.climbed(mark, mark));
    }

    private static void setAlarm() {
        refusedOutside("setAlarm", 10, 200, AltimeterWatch::setAlarm);
    }

    private static void altitudeAfter() {
        refusedOutside("altitudeAfter(minutes, 9000)", 1, 120, (watch, minutes) -> watch.altitudeAfter(minutes, 9000));
        refusedOutside("altitudeAfter(60, pressure)", 5000, 11000, (watch, pressure) -> watch.altitudeAfter(60, pressure));
    }

    private static void ascentIn() {
        refusedOutside("ascentIn(minutes, 9000)", 1, 120, (watch, minutes) -> watch.ascentIn(minutes, 9000));
        refusedOutside("ascentIn(60, pressure)", 5000, 11000, (watch, pressure) -> watch.ascentIn(60, pressure));
    }

    private static void pressureAt() {
        refusedOutside("pressureAt", -5000, 50000, AltimeterWatch::pressureAt);
    }

    private static void minutesToAlarm() {
        refusedOutside("minutesToAlarm", 1, 20, AltimeterWatch::minutesToAlarm);
    }

    private static void appendOfAWrongCode() {
        refusedOutside("append", 33, 126, AltimeterWatch::append);
        for (Situation situation : Situation.values()) {
            // The codes of "s" and of "m" but for the higher bits, which a char would lose.
            refused("append of 65536 + 's'", situation, ARGUMENT, watch -> watch.append(65536 + 's'));
            refused("append of 256 + 'm'", situation, ARGUMENT, watch -> watch.append(256 + 'm'));
        }
    }

    private static void appendToAFullBuffer() {
        for (int code : new int[] {33, 126, ';', 'm', '0'}) {
            refused("append of " + code, Situation.FULL, STATE, watch -> watch.append(code));
        }
        refused("append to 60 wrong characters", Situation.STATION, watch -> {
            for (int length = watch.append('~'); length < 60; length++) {
                watch.append('~');
            }
        }, STATE, watch -> watch.append('m'));
    }

    private static void appendOfAWrongCodeToAFullBuffer() {
        for (int code : new int[] {32, 127, -1, Integer.MIN_VALUE, Integer.MAX_VALUE}) {
            refused("append of " + code, Situation.FULL, ARGUMENT, watch -> watch.append(code));
        }
    }

    private static void run() {
        String[] texts = {"", ";", "s;", ";s", "s;;s", "5", "5>", "5>500", "5>1100", "5>5000;", "c", "c;s", "c-1", "c50001",
            "c00", "0>5000", "05>5000", "121>5000", "5>4999", "5>11001", "5>05000", "sm", "x", "s;m;c5;9>9000;c",
            "m;m;m;m;m;m;m;m;m;m;m;m;m;m;m;m;m;m;m;m;m;m;m;m;m;m;m;m;m;m;"};
        for (Situation situation : Situation.values()) {
            for (String text : texts) {
                refused("run() of \"" + text + "\"", situation, watch -> {
                    watch.clearText();
                    Check.typed(watch, text);
                }, ARGUMENT, AltimeterWatch::run);
                AltimeterWatch x = situation.make();
                x.clearText();
                Check.typed(x, text);
                Check.thrownBy(() -> x.run());
                CHECK.due("clearText() after run() of \"" + text + "\" when " + situation, x.clearText(), text.length());
            }
        }
    }

    private static void undo() {
        refused("undo()", Situation.NEW, STATE, AltimeterWatch::undo);
        for (Situation situation : Situation.values()) {
            refused("undo() after the last one", situation, watch -> {
                for (int left = watch.savedStates(); left > 0; left--) {
                    watch.undo();
                }
            }, STATE, AltimeterWatch::undo);
        }
    }

    private static void store() {
        refusedOutside("store", 0, 1, AltimeterWatch::store);
    }

    /** Both memories of a new watch and one of a moving one are empty: there two exceptions apply. */
    private static void recallOfNoMemory() {
        refusedOutside("recall", 0, 1, AltimeterWatch::recall);
    }

    private static void recallOfAnEmptyMemory() {
        refused("recall(0)", Situation.NEW, STATE, watch -> watch.recall(0));
        refused("recall(1)", Situation.NEW, STATE, watch -> watch.recall(1));
        refused("recall(0)", Situation.MOVING, STATE, watch -> watch.recall(0));
        refused("recall(1)", Situation.STATION, STATE, watch -> watch.recall(1));
    }
}
