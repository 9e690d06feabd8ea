import java.util.function.Supplier;

/**
 * All that the calls of a watch can bring to light: not only what they answer now, but the settings, the text, the log, the
 * saved states and the memories as well. A watch is used up by that, so each part of it takes a watch of its own.
 */
final class Probe {
    private final StringBuilder told = new StringBuilder();

    private Probe() {
    }

    static String everything(Supplier<AltimeterWatch> maker) {
        Probe probe = new Probe();
        probe.readings(maker.get());
        probe.settings(maker.get());
        probe.log(maker.get());
        probe.lastAlarm(maker.get());
        probe.text(maker.get());
        probe.savedStates(maker.get());
        probe.memory(maker.get(), 0);
        probe.memory(maker.get(), 1);
        return probe.told.toString();
    }

    private void tell(Object answer) {
        told.append(' ').append(answer);
    }

    /** What the watch answers without being changed. */
    private void readings(AltimeterWatch x) {
        tell("readings");
        present(x);
        tell(x.savedStates());
        tell(x.firstError());
        for (int perMinute = 1; perMinute <= 20; perMinute++) {
            tell(x.minutesToAlarm(perMinute));
        }
        for (int mark = 0; mark < x.marks(); mark++) {
            tell(x.markTime(mark) + "/" + x.markAltitude(mark) + "/" + x.climbed(0, mark));
        }
        for (int altitude = -5000; altitude <= 50000; altitude += 5000) {
            tell(x.pressureAt(altitude));
        }
    }

    private void present(AltimeterWatch x) {
        tell(x.isStation() + " " + x.pressure() + " " + x.altitude() + " " + x.minutes() + " " + x.sea());
        tell(x.drift() + " " + x.calibrations() + " " + x.ascent() + " " + x.descent() + " " + x.base());
        tell(x.marks() + " " + x.logged() + " " + x.fall() + " " + x.isAlarm() + " " + x.alarms());
        tell(x.climbShare());
        tell(x.digest());
        // The station altitude and the threshold show only in what would be.
        tell(x.altitudeAfter(1, 10132) + " " + x.altitudeAfter(1, 9132) + " " + x.altitudeAfter(1, 5000));
        tell(x.ascentIn(120, 9000) + " " + x.ascentIn(60, 9777) + " " + x.ascentIn(1, 5000));
        tell(x.minutesToAlarm(1) + " " + x.minutesToAlarm(20));
    }

    private void settings(AltimeterWatch x) {
        tell("settings " + x.setThreshold(10) + " " + x.setAlarm(10));
    }

    /** An hour at the least pressure shows each pressure of the log that is greater than all later ones. */
    private void log(AltimeterWatch x) {
        tell("log");
        for (int minute = 1; minute <= 60; minute++) {
            x.travel(1, 5000);
            tell(x.fall() + "/" + x.alarms());
        }
    }

    /** An alarm that went on by the limit of its time begins no second time. */
    private void lastAlarm(AltimeterWatch x) {
        x.setAlarm(10);
        x.travel(1, x.pressure());
        tell("alarms " + x.alarms());
    }

    private void text(AltimeterWatch x) {
        tell("text " + x.firstError() + " " + Check.thrownBy(() -> x.run()) + " " + x.digest() + " " + x.clearText());
    }

    private void savedStates(AltimeterWatch x) {
        tell("saved");
        for (int left = x.savedStates(); left > 0; left--) {
            tell(x.undo());
            present(x);
            settingsAside(x);
        }
        tell(Check.thrownBy(() -> x.undo()));
    }

    /** To be called after an undo, which leaves room for one more saved state: so none of them is lost here. */
    private void settingsAside(AltimeterWatch x) {
        tell(x.setThreshold(10));
        x.undo();
        tell(x.setAlarm(10));
        x.undo();
    }

    private void memory(AltimeterWatch x, int memory) {
        String thrown = Check.thrownBy(() -> x.recall(memory));
        tell("memory " + memory + " " + thrown);
        present(x);
        settings(x);
    }
}
