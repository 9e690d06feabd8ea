import java.util.ArrayDeque;
import java.util.ArrayList;
import java.util.Deque;
import java.util.HashSet;
import java.util.List;
import java.util.Set;

/**
 * The watch as the document tells it, word by word and without any short cut: whole copies of the state, searches through
 * all pressures, forecasts by trying them out. The tests compare AltimeterWatch with it.
 */
public final class PlainWatch {
    private static final Set<String> MINUTES = numbers(1, 120);
    private static final Set<String> PRESSURES = numbers(5000, 11000);
    private static final Set<String> ALTITUDES = numbers(0, 50000);
    private static final Set<String> MINUTES_BEGUN = beginnings(MINUTES);
    private static final Set<String> PRESSURES_BEGUN = beginnings(PRESSURES);
    private static final Set<String> ALTITUDES_BEGUN = beginnings(ALTITUDES);

    /** What undo brings back. */
    private static final class Now {
        boolean station;
        int pressure = 10132;
        int sea = 10132;
        int stationAltitude;
        int minutes;
        int base;
        int ascent;
        int descent;
        int threshold = 50;
        int limit = 40;
        int alarms;
        int drift;
        int calibrations;
        List<Integer> log = new ArrayList<>();
        List<Boolean> alarmsOfMinutes = new ArrayList<>();
        List<int[]> marks = new ArrayList<>();

        Now copy() {
            Now copy = new Now();
            copy.station = station;
            copy.pressure = pressure;
            copy.sea = sea;
            copy.stationAltitude = stationAltitude;
            copy.minutes = minutes;
            copy.base = base;
            copy.ascent = ascent;
            copy.descent = descent;
            copy.threshold = threshold;
            copy.limit = limit;
            copy.alarms = alarms;
            copy.drift = drift;
            copy.calibrations = calibrations;
            copy.log = new ArrayList<>(log);
            copy.alarmsOfMinutes = new ArrayList<>(alarmsOfMinutes);
            copy.marks = new ArrayList<>(marks);
            return copy;
        }

        int altitude() {
            return height(pressure) - height(sea);
        }

        void adjustTo(int altitude) {
            int best = -1;
            long bestDistance = Long.MAX_VALUE;
            for (int setting = 9000; setting <= 10800; setting++) {
                long distance = Math.abs((long) height(pressure) - height(setting) - altitude);
                if (distance < bestDistance) {
                    best = setting;
                    bestDistance = distance;
                }
            }
            sea = best;
        }

        int fall() {
            int greatest = 0;
            for (int logged : log) {
                greatest = Math.max(greatest, logged);
            }
            return log.isEmpty() ? 0 : greatest - log.get(log.size() - 1);
        }

        boolean alarm() {
            return fall() >= limit;
        }

        void log(int value) {
            log.add(value);
            if (log.size() > 60) {
                log.remove(0);
            }
        }

        void trip(int n, int last) {
            int first = pressure;
            for (int k = 1; k <= n; k++) {
                pressure = first + (last - first) * k / n;
                minutes++;
                if (station) {
                    adjustTo(stationAltitude);
                }
                if (!station) {
                    climb(altitude());
                }
                if (station) {
                    log(pressure);
                    boolean before = !alarmsOfMinutes.isEmpty() && alarmsOfMinutes.get(alarmsOfMinutes.size() - 1);
                    alarmsOfMinutes.add(alarm());
                    alarms += alarm() && !before ? 1 : 0;
                }
            }
        }

        void climb(int h) {
            if (h >= base + threshold) {
                ascent += h - base;
                base = h;
            } else if (h <= base - threshold) {
                descent += base - h;
                base = h;
            }
        }

        void mode(boolean on) {
            if (on == station) {
                return;
            }
            station = on;
            log.clear();
            alarmsOfMinutes.clear();
            if (on) {
                stationAltitude = altitude();
            } else {
                base = altitude();
            }
        }

        int calibrateTo(int altitude) {
            int error = altitude() - altitude;
            adjustTo(altitude);
            if (station) {
                stationAltitude = altitude();
            }
            base = altitude();
            drift += error;
            calibrations++;
            return error;
        }

        void mark() {
            marks.add(new int[] {minutes, altitude(), ascent});
            if (marks.size() > 10) {
                marks.remove(0);
            }
        }
    }

    private Now now = new Now();
    private final Deque<Now> saved = new ArrayDeque<>();
    private final Now[] memories = new Now[2];
    private String buffer = "";

    private static Set<String> numbers(int least, int most) {
        Set<String> all = new HashSet<>();
        for (int number = least; number <= most; number++) {
            all.add(Integer.toString(number));
        }
        return all;
    }

    private static Set<String> beginnings(Set<String> texts) {
        Set<String> all = new HashSet<>();
        for (String text : texts) {
            for (int length = 0; length <= text.length(); length++) {
                all.add(text.substring(0, length));
            }
        }
        return all;
    }

    private static int height(int pressure) {
        int d = 10132 - pressure;
        return pressure <= 10132 ? d * (83 + d / 250) / 10 : d * 83 / 10;
    }

    private static void range(int value, int least, int most) {
        if (value < least || value > most) {
            throw new IllegalArgumentException();
        }
    }

    private void save() {
        saved.addLast(now.copy());
        if (saved.size() > 6) {
            saved.removeFirst();
        }
    }

    private int[] mark(int number) {
        if (number < 0 || number >= now.marks.size()) {
            throw new IndexOutOfBoundsException();
        }
        return now.marks.get(number);
    }

    public int travel(int minutes, int pressure) {
        range(minutes, 1, 120);
        range(pressure, 5000, 11000);
        save();
        now.trip(minutes, pressure);
        return now.altitude();
    }

    public boolean setStation(boolean isStation) {
        boolean before = now.station;
        save();
        now.mode(isStation);
        return before;
    }

    public boolean isStation() {
        return now.station;
    }

    public int pressure() {
        return now.pressure;
    }

    public int altitude() {
        return now.altitude();
    }

    public int minutes() {
        return now.minutes;
    }

    public int standard(int pressure) {
        range(pressure, 5000, 11000);
        return height(pressure);
    }

    public int setSea(int pressure) {
        range(pressure, 9000, 10800);
        save();
        int before = now.sea;
        now.sea = pressure;
        if (now.station) {
            now.stationAltitude = now.altitude();
        }
        now.base = now.altitude();
        return before;
    }

    public int calibrate(int altitude) {
        range(altitude, -5000, 50000);
        save();
        return now.calibrateTo(altitude);
    }

    public int sea() {
        return now.sea;
    }

    public int drift() {
        return now.drift;
    }

    public int calibrations() {
        return now.calibrations;
    }

    public int setThreshold(int threshold) {
        range(threshold, 10, 500);
        save();
        int before = now.threshold;
        now.threshold = threshold;
        return before;
    }

    public int ascent() {
        return now.ascent;
    }

    public int descent() {
        return now.descent;
    }

    public int base() {
        return now.base;
    }

    public int setMark() {
        save();
        now.mark();
        return now.marks.size();
    }

    public int marks() {
        return now.marks.size();
    }

    public int markTime(int mark) {
        return mark(mark)[0];
    }

    public int markAltitude(int mark) {
        return mark(mark)[1];
    }

    public int climbed(int from, int to) {
        return mark(to)[2] - mark(from)[2];
    }

    public int setAlarm(int limit) {
        range(limit, 10, 200);
        save();
        int before = now.limit;
        now.limit = limit;
        return before;
    }

    public int logged() {
        return now.log.size();
    }

    public int fall() {
        return now.fall();
    }

    public boolean isAlarm() {
        return now.alarm();
    }

    public int alarms() {
        return now.alarms;
    }

    public int altitudeAfter(int minutes, int pressure) {
        range(minutes, 1, 120);
        range(pressure, 5000, 11000);
        Now then = now.copy();
        then.trip(minutes, pressure);
        return then.altitude();
    }

    public int ascentIn(int minutes, int pressure) {
        range(minutes, 1, 120);
        range(pressure, 5000, 11000);
        Now then = now.copy();
        then.trip(minutes, pressure);
        return then.ascent - now.ascent;
    }

    public int pressureAt(int altitude) {
        range(altitude, -5000, 50000);
        for (int pressure = 11000; pressure >= 5000; pressure--) {
            if (height(pressure) - height(now.sea) >= altitude) {
                return pressure;
            }
        }
        return -1;
    }

    public int minutesToAlarm(int perMinute) {
        range(perMinute, 1, 20);
        if (!now.station) {
            return -1;
        }
        Now then = now.copy();
        int passed = 0;
        while (!then.alarm()) {
            then.pressure -= perMinute;
            if (then.pressure < 5000) {
                return -1;
            }
            then.log(then.pressure);
            passed++;
        }
        return passed;
    }

    public double climbShare() {
        if (now.ascent == 0 && now.descent == 0) {
            return 0.5;
        }
        return (double) now.ascent / ((double) now.ascent + (double) now.descent);
    }

    public int append(int code) {
        range(code, 33, 126);
        if (buffer.length() == 60) {
            throw new IllegalStateException();
        }
        buffer += (char) code;
        return buffer.length();
    }

    public int clearText() {
        int before = buffer.length();
        buffer = "";
        return before;
    }

    public int firstError() {
        for (int i = 0; i < buffer.length(); i++) {
            if (!isTextBegun(buffer.substring(0, i + 1))) {
                return i;
            }
        }
        return buffer.length();
    }

    private static boolean isTextBegun(String text) {
        String[] parts = text.split(";", -1);
        for (int i = 0; i < parts.length - 1; i++) {
            if (!isPart(parts[i])) {
                return false;
            }
        }
        return isPartBegun(parts[parts.length - 1]);
    }

    private static boolean isPart(String part) {
        if (part.startsWith("c")) {
            return ALTITUDES.contains(part.substring(1));
        }
        int sign = part.indexOf('>');
        if (sign >= 0) {
            return MINUTES.contains(part.substring(0, sign)) && PRESSURES.contains(part.substring(sign + 1));
        }
        return part.equals("s") || part.equals("m");
    }

    private static boolean isPartBegun(String part) {
        if (part.startsWith("c")) {
            return ALTITUDES_BEGUN.contains(part.substring(1));
        }
        int sign = part.indexOf('>');
        if (sign >= 0) {
            return MINUTES.contains(part.substring(0, sign)) && PRESSURES_BEGUN.contains(part.substring(sign + 1));
        }
        return part.equals("s") || part.equals("m") || MINUTES_BEGUN.contains(part);
    }

    public int run() {
        String[] parts = buffer.split(";", -1);
        for (String part : parts) {
            if (!isPart(part)) {
                throw new IllegalArgumentException();
            }
        }
        save();
        for (String part : parts) {
            execute(part);
        }
        buffer = "";
        return now.altitude();
    }

    private void execute(String part) {
        if (part.equals("s")) {
            now.mode(!now.station);
        } else if (part.equals("m")) {
            now.mark();
        } else if (part.startsWith("c")) {
            now.calibrateTo(Integer.parseInt(part.substring(1)));
        } else {
            String[] numbers = part.split(">");
            now.trip(Integer.parseInt(numbers[0]), Integer.parseInt(numbers[1]));
        }
    }

    public int undo() {
        if (saved.isEmpty()) {
            throw new IllegalStateException();
        }
        now = saved.removeLast();
        return saved.size();
    }

    public int savedStates() {
        return saved.size();
    }

    public int store(int memory) {
        range(memory, 0, 1);
        memories[memory] = now.copy();
        return now.altitude();
    }

    public int recall(int memory) {
        range(memory, 0, 1);
        if (memories[memory] == null) {
            throw new IllegalStateException();
        }
        save();
        now = memories[memory].copy();
        return now.altitude();
    }

    public long digest() {
        List<Integer> values = new ArrayList<>(List.of(isStation() ? 1 : 0, pressure(), altitude(), minutes(), sea(),
            drift(), calibrations()));
        values.addAll(List.of(ascent(), descent(), base(), logged(), fall(), alarms(), isAlarm() ? 1 : 0, marks()));
        for (int mark = 0; mark < marks(); mark++) {
            values.addAll(List.of(markTime(mark), markAltitude(mark), climbed(0, mark)));
        }
        values.addAll(List.of(pressureAt(1000), minutesToAlarm(5)));
        long hash = 4369;
        for (int value : values) {
            hash = 31 * hash + value;
        }
        return hash;
    }
}
