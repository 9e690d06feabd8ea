import java.math.BigInteger;

/** The boundary cases of promises 37 to 41, a test for each sentence: saved states, undo, memories, the digest. */
public final class EdgesOfUndoTest {
    private static final Check CHECK = new Check("EdgesOfUndoTest");
    private static final Class<IllegalArgumentException> ARGUMENT = IllegalArgumentException.class;
    private static final Class<IllegalStateException> STATE = IllegalStateException.class;

    /** The undoable calls, each with something that it changes. */
    private static final Situation.Call[] UNDOABLE = {
        x -> x.travel(9, 9321), x -> x.travel(120, 10987), x -> x.setStation(!x.isStation()), x -> x.setSea(10321),
        x -> x.calibrate(4321), x -> x.setThreshold(123), x -> x.setMark(), x -> x.setAlarm(123), x -> {
            x.clearText();
            Check.typed(x, "m;c4321;9>9321;s;c1234;9>9123;m;m;m;m;m;m;m;m;m").run();
        },
    };

    public static void main(String[] args) {
        CHECK.sentence("The state consists of everything", EdgesOfUndoTest::everythingIsRestored);
        CHECK.sentence("except the buffer", EdgesOfUndoTest::bufferIsKept);
        CHECK.sentence("except ... the saved states", EdgesOfUndoTest::savedStatesAreKept);
        CHECK.sentence("except ... the memories", EdgesOfUndoTest::memoriesAreKept);
        CHECK.sentence("Each method that is marked \"Undoable\" saves the state from before the call",
            EdgesOfUndoTest::undoableCalls);
        CHECK.sentence("even if nothing changes", EdgesOfUndoTest::savedThoughNothingChanges);
        CHECK.sentence("Each method that is not marked \"Undoable\" saves nothing", EdgesOfUndoTest::callsThatSaveNothing);
        CHECK.sentence("if it does not throw an exception", EdgesOfUndoTest::refusedCallsSaveNothing);
        CHECK.sentence("At most 6 states are saved", EdgesOfUndoTest::sixStates);
        CHECK.sentence("when one more is saved, the oldest one is discarded", EdgesOfUndoTest::oneMoreState);
        CHECK.sentence("Restores the state that was saved last, and removes it from the saved states.",
            EdgesOfUndoTest::savedLast);
        CHECK.sentence("Returns the number of saved states that are left.", EdgesOfUndoTest::statesLeft);
        CHECK.sentence("Throws IllegalStateException if no state is saved", EdgesOfUndoTest::noState);
        CHECK.sentence("There are two memories, numbered 0 and 1", EdgesOfUndoTest::twoMemories);
        CHECK.sentence("which are empty at first", EdgesOfUndoTest::emptyMemories);
        CHECK.sentence("Stores the state in a memory, in place of what the memory contained.", EdgesOfUndoTest::inPlace);
        CHECK.sentence("store: Returns the altitude.", EdgesOfUndoTest::storeAltitude);
        CHECK.sentence("Restores the state from a memory, which keeps it. Undoable.", EdgesOfUndoTest::recallKeeps);
        CHECK.sentence("recall: Returns the altitude after the call.", EdgesOfUndoTest::recallAltitude);
        CHECK.sentence("The hash starts at 4369. ... the hash becomes 31 * hash + v", EdgesOfUndoTest::digestOfANewWatch);
        CHECK.sentence("1 in the station mode, otherwise 0; ... 1 if there is an alarm, otherwise 0",
            EdgesOfUndoTest::digestAtTheStation);
        CHECK.sentence("for each mark its time, its altitude, and what climbed(0, mark) returns",
            EdgesOfUndoTest::digestOfMarks);
        CHECK.sentence("in long arithmetic with overflow", EdgesOfUndoTest::digestOverflows);
        CHECK.sentence("what pressureAt(1000) and minutesToAlarm(5) return", EdgesOfUndoTest::digestOfForecasts);
        CHECK.end();
    }

    private static String readings(AltimeterWatch x) {
        return x.digest() + " " + x.altitudeAfter(1, 9999) + " " + x.ascentIn(50, 9000) + " " + x.minutesToAlarm(7);
    }

    private static AltimeterWatch travelled(int trips) {
        AltimeterWatch x = new AltimeterWatch();
        for (int i = 1; i <= trips; i++) {
            x.travel(1, 10000 + i);
        }
        return x;
    }

    private static void everythingIsRestored() {
        for (Situation situation : Situation.values()) {
            String before = Probe.everything(() -> situation.makeAnd(EdgesOfUndoTest::makeRoom));
            for (int i = 0; i < UNDOABLE.length; i++) {
                Situation.Call call = UNDOABLE[i];
                CHECK.due("everything after undo() of call " + i + " when " + situation,
                    Probe.everything(() -> situation.makeAnd(x -> {
                        makeRoom(x);
                        call.of(x);
                        x.undo();
                    })), before);
                AltimeterWatch x = situation.make();
                x.store(0);
                String stored = readings(x);
                call.of(x);
                x.recall(0);
                CHECK.due("readings after recall(0) after call " + i + " when " + situation, readings(x), stored);
            }
        }
    }

    /** One more saved state discards none then, and the text, which is no part of the state, is gone before. */
    private static void makeRoom(AltimeterWatch x) {
        if (x.savedStates() == 6) {
            x.undo();
        }
        x.clearText();
    }

    private static void bufferIsKept() {
        AltimeterWatch x = new AltimeterWatch();
        x.store(0);
        x.setMark();
        Check.typed(x, "s;m");
        x.undo();
        CHECK.due("firstError() after undo()", x.firstError(), 3);
        x.recall(0);
        CHECK.due("run() after undo() and recall(0)", x.run(), 0);
        CHECK.due("marks() after run()", x.marks(), 1);
        x.undo();
        CHECK.due("clearText() after undo() of run()", x.clearText(), 0);
    }

    private static void savedStatesAreKept() {
        AltimeterWatch x = travelled(2);
        x.store(0);
        x.travel(1, 10003);
        x.travel(1, 10004);
        x.recall(0);
        CHECK.due("savedStates() after recall(0)", x.savedStates(), 5);
        x.undo();
        CHECK.due("pressure() after undo() of recall(0)", x.pressure(), 10004);
        x.undo();
        CHECK.due("pressure() after one more undo()", x.pressure(), 10003);
    }

    private static void memoriesAreKept() {
        AltimeterWatch x = travelled(1);
        x.travel(1, 9000);
        x.store(1);
        x.undo();
        x.undo();
        CHECK.due("pressure() after undo()", x.pressure(), 10132);
        x.recall(1);
        CHECK.due("pressure() after recall(1)", x.pressure(), 9000);
        x.store(0);
        x.travel(1, 8000);
        x.store(1);
        x.recall(0);
        x.recall(1);
        CHECK.due("pressure() after recall(1), which recall(0) left", x.pressure(), 8000);
    }

    private static void undoableCalls() {
        for (Situation situation : Situation.values()) {
            for (int i = 0; i < UNDOABLE.length; i++) {
                AltimeterWatch x = situation.make();
                int saved = x.savedStates();
                String before = readings(x);
                UNDOABLE[i].of(x);
                CHECK.due("savedStates() after call " + i + " when " + situation, x.savedStates(), Math.min(saved + 1, 6));
                x.undo();
                CHECK.due("readings after undo() of call " + i + " when " + situation, readings(x), before);
            }
        }
        AltimeterWatch y = travelled(2);
        y.store(1);
        y.recall(1);
        CHECK.due("savedStates() after recall(1)", y.savedStates(), 3);
    }

    private static void savedThoughNothingChanges() {
        AltimeterWatch x = new AltimeterWatch();
        x.store(0);
        x.setStation(false);
        CHECK.due("savedStates() after setStation(false)", x.savedStates(), 1);
        x.setSea(10132);
        CHECK.due("savedStates() after setSea(10132)", x.savedStates(), 2);
        x.setThreshold(50);
        CHECK.due("savedStates() after setThreshold(50)", x.savedStates(), 3);
        x.setAlarm(40);
        CHECK.due("savedStates() after setAlarm(40)", x.savedStates(), 4);
        x.recall(0);
        CHECK.due("savedStates() after recall(0)", x.savedStates(), 5);
        Check.typed(x, "s;s").run();
        CHECK.due("savedStates() after \"s;s\"", x.savedStates(), 6);
        AltimeterWatch station = new AltimeterWatch();
        station.setStation(true);
        station.setStation(true);
        CHECK.due("savedStates() after setStation(true) twice", station.savedStates(), 2);
        AltimeterWatch marked = new AltimeterWatch();
        for (int i = 0; i < 10; i++) {
            marked.setMark();
        }
        marked.store(0);
        for (int i = 0; i < 6; i++) {
            marked.undo();
        }
        marked.recall(0);
        long before = marked.digest();
        marked.setMark();
        CHECK.due("digest() after a mark like the ten others", marked.digest(), before);
        CHECK.due("savedStates() after a mark like the ten others", marked.savedStates(), 2);
    }

    private static void callsThatSaveNothing() {
        AltimeterWatch x = travelled(1);
        x.setMark();
        x.isStation();
        x.pressure();
        x.altitude();
        x.minutes();
        x.standard(9000);
        x.sea();
        x.drift();
        x.calibrations();
        x.ascent();
        x.descent();
        x.base();
        x.marks();
        x.markTime(0);
        x.markAltitude(0);
        x.climbed(0, 0);
        CHECK.due("savedStates() after readings", x.savedStates(), 2);
        x.logged();
        x.fall();
        x.isAlarm();
        x.alarms();
        x.altitudeAfter(1, 9000);
        x.ascentIn(1, 9000);
        x.pressureAt(0);
        x.minutesToAlarm(1);
        x.climbShare();
        x.append('s');
        x.firstError();
        x.clearText();
        x.savedStates();
        x.store(0);
        x.digest();
        CHECK.due("savedStates() after forecasts, texts and store(0)", x.savedStates(), 2);
        CHECK.due("undo()", x.undo(), 1);
    }

    private static void refusedCallsSaveNothing() {
        AltimeterWatch x = travelled(1);
        Check.thrownBy(() -> x.travel(0, 9000));
        Check.thrownBy(() -> x.travel(1, 4999));
        Check.thrownBy(() -> x.setSea(8999));
        Check.thrownBy(() -> x.calibrate(50001));
        Check.thrownBy(() -> x.setThreshold(9));
        Check.thrownBy(() -> x.setAlarm(201));
        Check.thrownBy(() -> x.run());
        Check.thrownBy(() -> x.recall(0));
        Check.thrownBy(() -> x.recall(2));
        CHECK.due("savedStates() after refused calls", x.savedStates(), 1);
        CHECK.due("undo() after refused calls", x.undo(), 0);
        CHECK.due("pressure() after undo()", x.pressure(), 10132);
    }

    private static void sixStates() {
        CHECK.due("savedStates() at first", travelled(0).savedStates(), 0);
        CHECK.due("savedStates() after 5", travelled(5).savedStates(), 5);
        CHECK.due("savedStates() after 6", travelled(6).savedStates(), 6);
        CHECK.due("savedStates() after 7", travelled(7).savedStates(), 6);
        CHECK.due("savedStates() after 30", travelled(30).savedStates(), 6);
        AltimeterWatch x = travelled(6);
        for (int left = 5; left >= 0; left--) {
            CHECK.due("undo()", x.undo(), left);
            CHECK.due("pressure()", x.pressure(), left > 0 ? 10000 + left : 10132);
        }
    }

    private static void oneMoreState() {
        AltimeterWatch x = travelled(7);
        for (int left = 5; left >= 0; left--) {
            CHECK.due("undo()", x.undo(), left);
            CHECK.due("pressure()", x.pressure(), 10001 + left);
        }
        CHECK.refused("undo() of the discarded one", x, STATE, x::undo);
        CHECK.due("pressure() at the end", x.pressure(), 10001);
    }

    private static void savedLast() {
        AltimeterWatch x = travelled(8);
        x.undo();
        x.undo();
        x.undo();
        CHECK.due("pressure() after three times undo()", x.pressure(), 10005);
        x.travel(1, 9000);
        x.travel(1, 9001);
        CHECK.due("savedStates() after two more", x.savedStates(), 5);
        x.undo();
        CHECK.due("pressure() before the second one", x.pressure(), 9000);
        x.undo();
        CHECK.due("pressure() before the first one", x.pressure(), 10005);
        x.undo();
        CHECK.due("pressure() before both", x.pressure(), 10004);
        CHECK.due("savedStates()", x.savedStates(), 2);
    }

    private static void statesLeft() {
        AltimeterWatch x = travelled(3);
        CHECK.due("undo() of 3", x.undo(), 2);
        CHECK.due("undo() of 2", x.undo(), 1);
        CHECK.due("undo() of 1", x.undo(), 0);
        CHECK.due("savedStates()", x.savedStates(), 0);
    }

    private static void noState() {
        AltimeterWatch x = new AltimeterWatch();
        CHECK.refused("undo() of a new watch", x, STATE, x::undo);
        x.travel(1, 9000);
        x.undo();
        CHECK.refused("undo() after undo()", x, STATE, x::undo);
        x.travel(1, 8000);
        CHECK.due("undo() of a new trip", x.undo(), 0);
        CHECK.due("pressure()", x.pressure(), 10132);
    }

    private static void twoMemories() {
        AltimeterWatch x = travelled(1);
        x.store(0);
        x.travel(1, 9000);
        x.store(1);
        x.travel(1, 8000);
        x.recall(0);
        CHECK.due("pressure() after recall(0)", x.pressure(), 10001);
        x.recall(1);
        CHECK.due("pressure() after recall(1)", x.pressure(), 9000);
        CHECK.refused("store(-1)", x, ARGUMENT, () -> x.store(-1));
        CHECK.refused("store(2)", x, ARGUMENT, () -> x.store(2));
        CHECK.refused("recall(-1)", x, ARGUMENT, () -> x.recall(-1));
        CHECK.refused("recall(2)", x, ARGUMENT, () -> x.recall(2));
        x.recall(0);
        CHECK.due("pressure() after recall(0) again", x.pressure(), 10001);
        x.recall(1);
        CHECK.due("pressure() after recall(1) again", x.pressure(), 9000);
    }

    private static void emptyMemories() {
        AltimeterWatch x = new AltimeterWatch();
        CHECK.refused("recall(0)", x, STATE, () -> x.recall(0));
        CHECK.refused("recall(1)", x, STATE, () -> x.recall(1));
        CHECK.refused("recall(2), where both exceptions apply", x, ARGUMENT, () -> x.recall(2));
        x.store(0);
        CHECK.refused("recall(1) after store(0)", x, STATE, () -> x.recall(1));
        AltimeterWatch y = new AltimeterWatch();
        y.store(1);
        CHECK.refused("recall(0) after store(1)", y, STATE, () -> y.recall(0));
    }

    private static void inPlace() {
        AltimeterWatch x = travelled(1);
        x.store(0);
        x.setMark();
        x.travel(1, 9000);
        x.store(0);
        x.recall(0);
        CHECK.due("marks() after recall(0)", x.marks(), 1);
        CHECK.due("pressure() after recall(0)", x.pressure(), 9000);
        x.undo();
        x.undo();
        x.undo();
        x.store(0);
        x.travel(1, 8000);
        x.recall(0);
        CHECK.due("marks() after store(0) of a state before", x.marks(), 0);
        CHECK.due("pressure() after store(0) of a state before", x.pressure(), 10001);
    }

    private static void storeAltitude() {
        AltimeterWatch x = new AltimeterWatch();
        CHECK.due("store(0)", x.store(0), 0);
        x.travel(1, 10032);
        CHECK.due("store(1)", x.store(1), 830);
        x.travel(1, 11000);
        CHECK.due("store(0)", x.store(0), -7204);
    }

    private static void recallKeeps() {
        AltimeterWatch x = travelled(1);
        x.store(0);
        x.travel(1, 9000);
        x.recall(0);
        x.travel(1, 8000);
        x.setMark();
        x.recall(0);
        CHECK.due("pressure() after recall(0) again", x.pressure(), 10001);
        CHECK.due("marks() after recall(0) again", x.marks(), 0);
        CHECK.due("savedStates()", x.savedStates(), 6);
        x.undo();
        CHECK.due("pressure() after undo()", x.pressure(), 8000);
        CHECK.due("marks() after undo()", x.marks(), 1);
        x.undo();
        x.undo();
        x.undo();
        CHECK.due("pressure() after undo() of the first recall(0)", x.pressure(), 9000);
    }

    private static void recallAltitude() {
        AltimeterWatch x = new AltimeterWatch();
        x.travel(1, 10032);
        x.store(1);
        x.travel(1, 11000);
        x.store(0);
        CHECK.due("recall(1)", x.recall(1), 830);
        CHECK.due("recall(0)", x.recall(0), -7204);
    }

    private static long hash(long... values) {
        long hash = 4369;
        for (long value : values) {
            hash = 31 * hash + value;
        }
        return hash;
    }

    private static void digestOfANewWatch() {
        CHECK.due("digest()", new AltimeterWatch().digest(),
            hash(0, 10132, 0, 0, 10132, 0, 0, 0, 0, 0, 0, 0, 0, 0, 0, 10011, -1));
    }

    private static void digestAtTheStation() {
        AltimeterWatch x = new AltimeterWatch();
        x.calibrate(830);
        x.travel(2, 10232);
        x.travel(1, 10032);
        x.setStation(true);
        CHECK.due("digest() with an empty log", x.digest(),
            hash(1, 10032, 1660, 3, 10232, -830, 1, 1660, 830, 1660, 0, 0, 0, 0, 0, 10111, 9));
        x.travel(1, 10132);
        x.travel(1, 10092);
        // 10092 is 332, and 10292 is -1328, which is 1660 lower.
        CHECK.due("digest() with an alarm", x.digest(),
            hash(1, 10092, 1660, 5, 10292, -830, 1, 1660, 830, 1660, 2, 40, 1, 1, 0, 10171, 0));
        x.setAlarm(41);
        CHECK.due("digest() without an alarm", x.digest(),
            hash(1, 10092, 1660, 5, 10292, -830, 1, 1660, 830, 1660, 2, 40, 1, 0, 0, 10171, 1));
    }

    private static void digestOfMarks() {
        AltimeterWatch x = new AltimeterWatch();
        x.travel(1, 10032);
        x.setMark();
        x.travel(2, 9932);
        x.setMark();
        x.travel(3, 10132);
        x.setMark();
        x.travel(4, 10032);
        CHECK.due("digest() with three marks", x.digest(), hash(0, 10032, 830, 10, 10132, 0, 0, 2490, 1660, 830, 0, 0, 0, 0,
            3, 1, 830, 0, 3, 1660, 830, 6, 0, 830, 10011, -1));
        AltimeterWatch full = new AltimeterWatch();
        for (int i = 0; i < 11; i++) {
            full.travel(1, 10132);
            full.setMark();
        }
        CHECK.due("digest() with ten marks", full.digest(), hash(0, 10132, 0, 11, 10132, 0, 0, 0, 0, 0, 0, 0, 0, 0, 10,
            2, 0, 0, 3, 0, 0, 4, 0, 0, 5, 0, 0, 6, 0, 0, 7, 0, 0, 8, 0, 0, 9, 0, 0, 10, 0, 0, 11, 0, 0, 10011, -1));
    }

    private static void digestOverflows() {
        // 4369 * 31 to the 17 is far beyond 2 to the 63.
        BigInteger hash = BigInteger.valueOf(4369);
        for (long value : new long[] {0, 10132, 0, 0, 10132, 0, 0, 0, 0, 0, 0, 0, 0, 0, 0, 10011, -1}) {
            hash = hash.multiply(BigInteger.valueOf(31)).add(BigInteger.valueOf(value));
        }
        CHECK.due("bits of the hash without overflow", hash.bitLength() > 63, true);
        CHECK.due("digest()", new AltimeterWatch().digest(), hash.longValue());
    }

    private static void digestOfForecasts() {
        AltimeterWatch x = new AltimeterWatch();
        x.setSea(9003);
        // 9003 is 9822, and 8888 is 10822, which is 1000 higher.
        x.setStation(true);
        CHECK.due("digest()", x.digest(),
            hash(1, 10132, -9822, 0, 9003, 0, 0, 0, 0, -9822, 0, 0, 0, 0, 0, 8888, 9));
        x.travel(1, 10132);
        CHECK.due("digest() after a minute", x.digest(),
            hash(1, 10132, -9822, 1, 9003, 0, 0, 0, 0, -9822, 1, 0, 0, 0, 0, 8888, 8));
        AltimeterWatch y = new AltimeterWatch();
        y.setSea(9979);
        // 9979 is 1269, 9862 is 2268, which is 999 higher, and 9861 is 2276.
        CHECK.due("digest() when 999 is not enough", y.digest(),
            hash(0, 10132, -1269, 0, 9979, 0, 0, 0, 0, -1269, 0, 0, 0, 0, 0, 9861, -1));
    }
}
