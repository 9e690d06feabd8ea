/** Promises 37 to 41: undo, memories, and the digest. */
public final class UndoTest {
    private static final Check CHECK = new Check("UndoTest");
    private static final Class<IllegalArgumentException> ARGUMENT = IllegalArgumentException.class;
    private static final Class<IllegalStateException> STATE = IllegalStateException.class;

    public static void main(String[] args) {
        undo();
        sixStates();
        undoRestoresEverything();
        stationAltitudeIsRestored();
        callsThatSaveNothing();
        store();
        recall();
        recallRestoresEverything();
        wrongMemories();
        digest();
        CHECK.end();
    }

    private static void undo() {
        AltimeterWatch x = new AltimeterWatch();
        CHECK.refused("undo() of nothing", x, STATE, () -> x.undo());
        x.travel(1, 10032);
        x.travel(1, 9932);
        CHECK.due("savedStates()", x.savedStates(), 2);
        CHECK.due("undo()", x.undo(), 1);
        CHECK.due("pressure()", x.pressure(), 10032);
        CHECK.due("savedStates()", x.savedStates(), 1);
        CHECK.due("undo()", x.undo(), 0);
        CHECK.due("pressure()", x.pressure(), 10132);
        CHECK.refused("undo() of nothing more", x, STATE, () -> x.undo());
        x.travel(1, 9832);
        CHECK.due("undo() once more", x.undo(), 0);
        CHECK.due("pressure()", x.pressure(), 10132);
    }

    private static void sixStates() {
        AltimeterWatch x = new AltimeterWatch();
        for (int i = 1; i <= 9; i++) {
            x.travel(1, 10000 + i);
            CHECK.due("savedStates()", x.savedStates(), Math.min(i, 6));
        }
        for (int i = 8; i >= 3; i--) {
            CHECK.due("undo()", x.undo(), i - 3);
            CHECK.due("pressure()", x.pressure(), 10000 + i);
        }
        CHECK.refused("undo() of the discarded states", x, STATE, () -> x.undo());
        CHECK.due("pressure()", x.pressure(), 10003);
        for (int i = 1; i <= 7; i++) {
            x.setStation(i % 2 == 1);
        }
        for (int i = 6; i >= 1; i--) {
            CHECK.due("undo()", x.undo(), i - 1);
            CHECK.due("isStation()", x.isStation(), i % 2 == 1);
        }
    }

    private static void undoRestoresEverything() {
        AltimeterWatch x = eventful();
        String before = everything(x);
        x.setThreshold(77);
        x.setAlarm(99);
        x.setMark();
        x.travel(70, 9500);
        x.setStation(false);
        x.calibrate(1000);
        for (int i = 0; i < 6; i++) {
            x.undo();
        }
        CHECK.due("everything after undo()", everything(x), before);
    }

    /** The station altitude shows only when the pressure changes. */
    private static void stationAltitudeIsRestored() {
        AltimeterWatch x = new AltimeterWatch();
        x.setStation(true);
        x.store(0);
        x.setSea(10032);
        x.undo();
        CHECK.due("altitudeAfter(1, 10032) after undo()", x.altitudeAfter(1, 10032), 0);
        x.setSea(10032);
        x.recall(0);
        CHECK.due("altitudeAfter(1, 10032) after recall(0)", x.altitudeAfter(1, 10032), 0);
        CHECK.due("travel(1, 10032) after recall(0)", x.travel(1, 10032), 0);
    }

    private static AltimeterWatch eventful() {
        AltimeterWatch x = new AltimeterWatch();
        x.setMark();
        x.travel(10, 9800);
        x.calibrate(3000);
        x.travel(10, 9900);
        x.setMark();
        x.setStation(true);
        x.setThreshold(33);
        x.setAlarm(44);
        x.travel(30, 9850);
        return x;
    }

    /** Everything that can be seen of a state; the calls that would change it are made on the way and undone. */
    private static String everything(AltimeterWatch x) {
        StringBuilder all = new StringBuilder();
        all.append(x.digest()).append(' ').append(x.climbShare());
        for (int perMinute = 1; perMinute <= 20; perMinute++) {
            all.append(' ').append(x.minutesToAlarm(perMinute));
        }
        all.append(' ').append(x.altitudeAfter(5, 9750)).append(' ').append(x.ascentIn(5, 8000));
        for (int mark = 0; mark < x.marks(); mark++) {
            all.append(' ').append(x.markTime(mark)).append(' ').append(x.markAltitude(mark));
        }
        all.append(' ').append(x.setAlarm(10));
        x.undo();
        all.append(' ').append(x.setThreshold(10));
        x.undo();
        return all.toString();
    }

    private static void callsThatSaveNothing() {
        AltimeterWatch x = eventful();
        x.undo();
        int saved = x.savedStates();
        x.append('s');
        x.firstError();
        x.clearText();
        x.store(1);
        x.digest();
        x.standard(9000);
        x.markTime(0);
        x.climbed(0, 1);
        CHECK.due("savedStates()", x.savedStates(), saved);
        x.recall(1);
        CHECK.due("savedStates() after recall(1)", x.savedStates(), saved + 1);
    }

    private static void store() {
        AltimeterWatch x = new AltimeterWatch();
        x.travel(1, 10032);
        CHECK.due("store(0)", x.store(0), 830);
        x.travel(1, 9932);
        CHECK.due("store(1)", x.store(1), 1660);
        x.travel(1, 9832);
        CHECK.due("recall(0)", x.recall(0), 830);
        CHECK.due("recall(1)", x.recall(1), 1660);
        x.travel(1, 10132);
        CHECK.due("store(0) again", x.store(0), 0);
        x.travel(1, 9132);
        CHECK.due("recall(0)", x.recall(0), 0);
        CHECK.due("minutes()", x.minutes(), 3);
        x.undo();
        x.undo();
        x.undo();
        CHECK.due("recall(0) after undo()", x.recall(0), 0);
    }

    private static void recall() {
        AltimeterWatch x = new AltimeterWatch();
        CHECK.refused("recall(0) of nothing", x, STATE, () -> x.recall(0));
        CHECK.refused("recall(1) of nothing", x, STATE, () -> x.recall(1));
        x.travel(1, 10032);
        x.store(1);
        CHECK.refused("recall(0) when 1 is filled", x, STATE, () -> x.recall(0));
        x.travel(1, 9932);
        Check.typed(x, "s;m");
        CHECK.due("recall(1)", x.recall(1), 830);
        CHECK.due("savedStates()", x.savedStates(), 3);
        CHECK.due("pressure()", x.pressure(), 10032);
        x.travel(1, 9000);
        CHECK.due("recall(1) again", x.recall(1), 830);
        CHECK.due("clearText()", x.clearText(), 3);
        x.undo();
        CHECK.due("pressure() after undo()", x.pressure(), 9000);
        x.undo();
        x.undo();
        CHECK.due("pressure() before the first recall(1)", x.pressure(), 9932);
        CHECK.due("savedStates()", x.savedStates(), 2);
    }

    private static void recallRestoresEverything() {
        AltimeterWatch x = eventful();
        String before = everything(x);
        x.store(0);
        x.setThreshold(200);
        x.setAlarm(111);
        x.setStation(false);
        x.setSea(9500);
        for (int i = 0; i < 11; i++) {
            x.travel(i + 1, 6000 + 300 * i);
            x.setMark();
            x.calibrate(100 * i);
        }
        String between = everything(x);
        x.recall(0);
        CHECK.due("everything after recall(0)", everything(x), before);
        x.undo();
        CHECK.due("everything after undo() of recall(0)", everything(x), between);
        x.recall(0);
        x.travel(50, 9700);
        AltimeterWatch y = eventful();
        y.travel(50, 9700);
        CHECK.due("everything after a trip", everything(x), everything(y));
    }

    private static void wrongMemories() {
        AltimeterWatch x = new AltimeterWatch();
        for (int memory : new int[] {-1, 2, 3, Integer.MIN_VALUE, Integer.MAX_VALUE}) {
            CHECK.refused("store(" + memory + ")", x, ARGUMENT, () -> x.store(memory));
            CHECK.refused("recall(" + memory + ")", x, ARGUMENT, () -> x.recall(memory));
        }
        CHECK.refused("recall(0) after the refused ones", x, STATE, () -> x.recall(0));
        CHECK.refused("recall(1) after the refused ones", x, STATE, () -> x.recall(1));
    }

    private static void digest() {
        AltimeterWatch x = new AltimeterWatch();
        CHECK.due("digest()", x.digest(), hash(x));
        x.setMark();
        x.travel(10, 9800);
        x.setMark();
        CHECK.due("digest() with marks", x.digest(), hash(x));
        x.setStation(true);
        CHECK.due("digest() at the station", x.digest(), hash(x));
        x.travel(60, 9770);
        CHECK.due("digest() with a log", x.digest(), hash(x));
        x.travel(1, 9700);
        CHECK.due("digest() with an alarm", x.digest(), hash(x));
        CHECK.due("digest() of the same calls", eventful().digest(), eventful().digest());
        for (int i = 0; i < 12; i++) {
            x.setMark();
            x.travel(1, 9700 + i);
        }
        CHECK.due("digest() with all marks", x.digest(), hash(x));
        CHECK.due("savedStates() after digest()", x.savedStates(), 6);
        // With these settings some pressure has the altitude 999 or 1000, so that 999, 1000 and 1001 are told apart.
        for (int sea = 9800; sea <= 9830; sea++) {
            x.setSea(sea);
            CHECK.due("digest() with the sea setting " + sea, x.digest(), hash(x));
        }
    }

    private static long hash(AltimeterWatch x) {
        long hash = 4369;
        long[] values = {x.isStation() ? 1 : 0, x.pressure(), x.altitude(), x.minutes(), x.sea(), x.drift(),
            x.calibrations(), x.ascent(), x.descent(), x.base(), x.logged(), x.fall(), x.alarms(),
            x.isAlarm() ? 1 : 0, x.marks()};
        for (long value : values) {
            hash = 31 * hash + value;
        }
        for (int mark = 0; mark < x.marks(); mark++) {
            hash = 31 * hash + x.markTime(mark);
            hash = 31 * hash + x.markAltitude(mark);
            hash = 31 * hash + x.climbed(0, mark);
        }
        hash = 31 * hash + x.pressureAt(1000);
        return 31 * hash + x.minutesToAlarm(5);
    }
}
