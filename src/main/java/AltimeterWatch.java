/** A watch with an altimeter; what it promises is told in the document of the project, promise by promise. */
public final class AltimeterWatch {
    /** There is no such number. */
    public static final int NONE = -1;

    private static final int FIRST_PRESSURE = 10132;
    private static final int LEAST_PRESSURE = 5000;
    private static final int MOST_PRESSURE = 11000;
    private static final int LEAST_SEA = 9000;
    private static final int MOST_SEA = 10800;
    private static final int LEAST_ALTITUDE = -5000;
    private static final int MOST_ALTITUDE = 50000;
    private static final int LEAST_TEXT_ALTITUDE = 0;
    private static final int LEAST_TRIP = 1;
    private static final int MOST_TRIP = 120;
    private static final int FIRST_THRESHOLD = 50;
    private static final int LEAST_THRESHOLD = 10;
    private static final int MOST_THRESHOLD = 500;
    private static final int FIRST_LIMIT = 40;
    private static final int LEAST_LIMIT = 10;
    private static final int MOST_LIMIT = 200;
    private static final int LEAST_FALL = 1;
    private static final int MOST_FALL = 20;
    private static final int MOST_MARKS = 10;
    private static final int MOST_LOGGED = 60;
    private static final int MOST_SAVED = 6;
    private static final int MOST_CODES = 60;
    private static final int LEAST_CODE = 33;
    private static final int MOST_CODE = 126;
    private static final int LAST_MEMORY = 1;
    private static final long FIRST_HASH = 4369;

    private final State now = new State();
    private final SavedStates saved = new SavedStates();
    private final Memory memory0 = new Memory();
    private final Memory memory1 = new Memory();
    private final TripText text = new TripText();

    /** Creates a watch in the moving mode, without marks. */
    public AltimeterWatch() {
    }

    // ---- trips

    /** Makes a trip; answers the altitude after it. */
    public int travel(int minutes, int pressure) throws IllegalArgumentException {
        refuseOutside(minutes, LEAST_TRIP, MOST_TRIP);
        refuseOutside(pressure, LEAST_PRESSURE, MOST_PRESSURE);
        saved.save(now);
        now.makeTrip(minutes, pressure);
        return now.height();
    }

    /** Switches the station mode on or off; answers whether it was on before. */
    public boolean setStation(boolean isStation) {
        boolean before = now.station;
        saved.save(now);
        now.switchStation(isStation);
        return before;
    }

    /** Answers whether the watch is in the station mode. */
    public boolean isStation() {
        return now.station;
    }

    /** Answers the pressure of the air. */
    public int pressure() {
        return now.pressure;
    }

    /** Answers the altitude. */
    public int altitude() {
        return now.height();
    }

    /** Answers the number of minutes of all trips so far. */
    public int minutes() {
        return now.minutes;
    }

    /** Answers the standard altitude of a pressure. */
    public int standard(int pressure) throws IllegalArgumentException {
        refuseOutside(pressure, LEAST_PRESSURE, MOST_PRESSURE);
        return Air.standardAltitude(pressure);
    }

    // ---- calibrating

    /** Sets the sea setting; answers the previous one. */
    public int setSea(int pressure) throws IllegalArgumentException {
        refuseOutside(pressure, LEAST_SEA, MOST_SEA);
        int before = now.sea;
        saved.save(now);
        now.takeSea(pressure);
        return before;
    }

    /** Calibrates the watch to the true altitude; answers the error that it had. */
    public int calibrate(int altitude) throws IllegalArgumentException {
        refuseOutside(altitude, LEAST_ALTITUDE, MOST_ALTITUDE);
        saved.save(now);
        return now.correctTo(altitude);
    }

    /** Answers the sea setting. */
    public int sea() {
        return now.sea;
    }

    /** Answers the sum of the errors of all calibrations. */
    public int drift() {
        return now.drift;
    }

    /** Answers the number of calibrations so far. */
    public int calibrations() {
        return now.calibrations;
    }

    // ---- climbs, marks

    /** Sets the threshold of the climb counter; answers the previous one. */
    public int setThreshold(int threshold) throws IllegalArgumentException {
        refuseOutside(threshold, LEAST_THRESHOLD, MOST_THRESHOLD);
        int before = now.climb.threshold;
        saved.save(now);
        now.climb.threshold = threshold;
        return before;
    }

    /** Answers the ascent. */
    public int ascent() {
        return now.climb.ascent;
    }

    /** Answers the descent. */
    public int descent() {
        return now.climb.descent;
    }

    /** Answers the base altitude of the climb counter. */
    public int base() {
        return now.climb.base;
    }

    /** Sets a mark; answers the number of marks after it. */
    public int setMark() {
        saved.save(now);
        now.addMark();
        return now.marks.count;
    }

    /** Answers the number of marks. */
    public int marks() {
        return now.marks.count;
    }

    /** Answers the time of a mark. */
    public int markTime(int mark) throws IndexOutOfBoundsException {
        refuseNoMark(mark);
        return now.marks.timeOf(mark);
    }

    /** Answers the altitude of a mark. */
    public int markAltitude(int mark) throws IndexOutOfBoundsException {
        refuseNoMark(mark);
        return now.marks.heightOf(mark);
    }

    /** Answers how much was climbed between two marks. */
    public int climbed(int from, int to) throws IndexOutOfBoundsException {
        refuseNoMark(from);
        refuseNoMark(to);
        return now.marks.ascentOf(to) - now.marks.ascentOf(from);
    }

    // ---- weather

    /** Sets the alarm limit; answers the previous one. */
    public int setAlarm(int limit) throws IllegalArgumentException {
        refuseOutside(limit, LEAST_LIMIT, MOST_LIMIT);
        int before = now.weather.limit;
        saved.save(now);
        now.weather.limit = limit;
        return before;
    }

    /** Answers the number of pressures in the weather log. */
    public int logged() {
        return now.weather.count;
    }

    /** Answers the fall of the pressure. */
    public int fall() {
        return now.weather.presentFall();
    }

    /** Answers whether there is an alarm. */
    public boolean isAlarm() {
        return now.weather.hasAlarm();
    }

    /** Answers the number of alarms that began so far. */
    public int alarms() {
        return now.weather.begun;
    }

    // ---- forecasts

    /** Predicts the altitude after a trip. */
    public int altitudeAfter(int minutes, int pressure) throws IllegalArgumentException {
        refuseOutside(minutes, LEAST_TRIP, MOST_TRIP);
        refuseOutside(pressure, LEAST_PRESSURE, MOST_PRESSURE);
        return now.heightAfterTripTo(pressure);
    }

    /** Predicts how much the ascent would increase in a trip. */
    public int ascentIn(int minutes, int pressure) throws IllegalArgumentException {
        refuseOutside(minutes, LEAST_TRIP, MOST_TRIP);
        refuseOutside(pressure, LEAST_PRESSURE, MOST_PRESSURE);
        return now.ascentOfTrip(minutes, pressure);
    }

    /** Finds the greatest pressure at which the watch would show at least this altitude; NONE if there is none. */
    public int pressureAt(int altitude) throws IllegalArgumentException {
        refuseOutside(altitude, LEAST_ALTITUDE, MOST_ALTITUDE);
        return now.pressureAtHeight(altitude);
    }

    /** Predicts after how many minutes there is an alarm, if the pressure falls steadily; NONE if never. */
    public int minutesToAlarm(int perMinute) throws IllegalArgumentException {
        refuseOutside(perMinute, LEAST_FALL, MOST_FALL);
        return now.minutesUntilAlarm(perMinute);
    }

    /** Answers the share of climbing in all movements. */
    public double climbShare() {
        int moved = now.climb.ascent + now.climb.descent;
        if (moved == 0) {
            return 0.5;
        }
        return (double) now.climb.ascent / (double) moved;
    }

    // ---- trip text

    /** Appends a character to the buffer; answers the new length. */
    public int append(int code) throws IllegalArgumentException, IllegalStateException {
        refuseOutside(code, LEAST_CODE, MOST_CODE);
        if (text.length >= MOST_CODES) {
            throw new IllegalStateException("the buffer is full");
        }
        text.put(code);
        return text.length;
    }

    /** Empties the buffer; answers the length that it had. */
    public int clearText() {
        int before = text.length;
        text.length = 0;
        return before;
    }

    /** Finds the first error of the buffer; answers the length of the buffer if there is none. */
    public int firstError() {
        return text.readWith(new TripReader());
    }

    /** Executes the trip text in the buffer and empties the buffer; answers the altitude after it. */
    public int run() throws IllegalArgumentException {
        TripReader check = new TripReader();
        if (text.readWith(check) < text.length || !check.isPartWhole()) {
            throw new IllegalArgumentException("the buffer is not a complete trip text");
        }
        saved.save(now);
        TripReader reader = new TripReader();
        for (int i = 0; i < text.length && i < text.codes.length; i++) {
            if (text.codes[i] == ';') {
                execute(reader);
            }
            reader.reads(text.codes[i]);
        }
        execute(reader);
        text.length = 0;
        return now.height();
    }

    // ---- undo, memories

    /** Restores the state that was saved last; answers how many saved states are left. */
    public int undo() throws IllegalStateException {
        if (saved.count == 0) {
            throw new IllegalStateException("no state is saved");
        }
        saved.restoreLast(now);
        return saved.count;
    }

    /** Answers the number of saved states. */
    public int savedStates() {
        return saved.count;
    }

    /** Stores the state in a memory; answers the altitude. */
    public int store(int memory) throws IllegalArgumentException {
        refuseOutside(memory, 0, LAST_MEMORY);
        Memory place = memoryOf(memory);
        place.kept.copyFrom(now);
        place.filled = true;
        return now.height();
    }

    /** Restores the state from a memory; answers the altitude after it. */
    public int recall(int memory) throws IllegalArgumentException, IllegalStateException {
        refuseOutside(memory, 0, LAST_MEMORY);
        Memory place = memoryOf(memory);
        if (!place.filled) {
            throw new IllegalStateException("the memory is empty");
        }
        saved.save(now);
        now.copyFrom(place.kept);
        return now.height();
    }

    /** Computes a hash of the state. */
    public long digest() {
        long hash = hashOfReadings(FIRST_HASH);
        hash = hashOfMarks(hash);
        hash = mixed(hash, now.pressureAtHeight(1000));
        return mixed(hash, now.minutesUntilAlarm(5));
    }

    // ---- behind the face

    private static void refuseOutside(int value, int least, int most) {
        if (value < least || value > most) {
            throw new IllegalArgumentException("out of range");
        }
    }

    private void refuseNoMark(int mark) {
        if (mark < 0 || mark >= now.marks.count) {
            throw new IndexOutOfBoundsException("there is no such mark");
        }
    }

    private Memory memoryOf(int number) {
        return number == 0 ? memory0 : memory1;
    }

    /** Executes the part of a trip text that the reader has just read. */
    private void execute(TripReader reader) {
        if (reader.part == TripReader.SWITCH) {
            now.switchStation(!now.station);
        } else if (reader.part == TripReader.MARK) {
            now.addMark();
        } else if (reader.part == TripReader.TRIP) {
            now.makeTrip(reader.minutes, reader.number);
        } else if (reader.part == TripReader.CALIBRATION) {
            now.correctTo(reader.number);
        }
    }

    private static long mixed(long hash, int value) {
        return 31 * hash + value;
    }

    private long hashOfReadings(long start) {
        long hash = mixed(start, now.station ? 1 : 0);
        hash = mixed(hash, now.pressure);
        hash = mixed(hash, now.height());
        hash = mixed(hash, now.minutes);
        hash = mixed(hash, now.sea);
        hash = mixed(hash, now.drift);
        hash = mixed(hash, now.calibrations);
        hash = mixed(hash, now.climb.ascent);
        hash = mixed(hash, now.climb.descent);
        hash = mixed(hash, now.climb.base);
        hash = mixed(hash, now.weather.count);
        hash = mixed(hash, now.weather.presentFall());
        hash = mixed(hash, now.weather.begun);
        return mixed(hash, now.weather.hasAlarm() ? 1 : 0);
    }

    private long hashOfMarks(long start) {
        Marks marks = now.marks;
        long hash = mixed(start, marks.count);
        for (int mark = 0; mark < marks.count && mark < MOST_MARKS; mark++) {
            hash = mixed(hash, marks.timeOf(mark));
            hash = mixed(hash, marks.heightOf(mark));
            hash = mixed(hash, marks.ascentOf(mark) - marks.ascentOf(0));
        }
        return hash;
    }

    private static void copyRow(int[] from, int[] to) {
        System.arraycopy(from, 0, to, 0, Math.min(from.length, to.length));
    }

    /** Drops the first element of a row and moves the others up; the last place keeps what it had. */
    private static void moveUp(int[] row) {
        for (int i = 1; i < row.length; i++) {
            row[i - 1] = row[i];
        }
    }

    private static int elementOf(int[] row, int index) {
        return index >= 0 && index < row.length ? row[index] : 0;
    }

    /** What pressures and altitudes have to do with each other. */
    private static final class Air {
        // 2 to the 13 is more than the 6001 pressures that there are.
        private static final int HALVINGS = 13;

        static int standardAltitude(int pressure) {
            int below = FIRST_PRESSURE - pressure;
            if (below < 0) {
                return below * 83 / 10;
            }
            return below * (83 + below / 250) / 10;
        }

        static int heightAt(int pressure, int sea) {
            return standardAltitude(pressure) - standardAltitude(sea);
        }

        /** The pressure after some of the minutes of a trip. */
        static int onTheWay(int first, int last, int minute, int minutes) {
            if (minutes < 1) {
                return last;
            }
            return first + (last - first) * minute / minutes;
        }

        /** The greatest pressure from least to most whose standard altitude is at least this one, or NONE. */
        static int greatestPressure(int standardAltitude, int least, int most) {
            int found = NONE;
            int low = least;
            int high = most;
            // The search may halve because a greater pressure always has a lower standard altitude.
            for (int step = 0; step < HALVINGS && low <= high; step++) {
                int middle = (low + high) / 2;
                if (standardAltitude(middle) >= standardAltitude) {
                    found = middle;
                    low = middle + 1;
                } else {
                    high = middle - 1;
                }
            }
            return found;
        }

        /** The sea setting with which the altitude is nearest to this one; of two such settings the lesser one. */
        static int nearestSea(int pressure, int altitude) {
            int notAbove = greatestPressure(standardAltitude(pressure) - altitude, LEAST_SEA, MOST_SEA);
            if (notAbove == NONE) {
                return LEAST_SEA;
            }
            if (notAbove >= MOST_SEA) {
                return MOST_SEA;
            }
            int missing = altitude - heightAt(pressure, notAbove);
            int tooMuch = heightAt(pressure, notAbove + 1) - altitude;
            return missing <= tooMuch ? notAbove : notAbove + 1;
        }
    }

    /** The climb counter. */
    private static final class Climb {
        int base;
        int ascent;
        int descent;
        int threshold = FIRST_THRESHOLD;

        void copyFrom(Climb other) {
            base = other.base;
            ascent = other.ascent;
            descent = other.descent;
            threshold = other.threshold;
        }

        void take(int height) {
            if (height >= base + threshold) {
                ascent += height - base;
                base = height;
            } else if (height <= base - threshold) {
                descent += base - height;
                base = height;
            }
        }
    }

    /** The weather log, from the oldest pressure to the latest one, and the storm alarm. */
    private static final class Weather {
        final int[] pressures = new int[MOST_LOGGED];
        int count;
        int limit = FIRST_LIMIT;
        int begun;
        // Kept and not worked out anew, because the limit may have been changed since that minute.
        boolean alarmAfterLastMinute;

        void copyFrom(Weather other) {
            copyRow(other.pressures, pressures);
            count = other.count;
            limit = other.limit;
            begun = other.begun;
            alarmAfterLastMinute = other.alarmAfterLastMinute;
        }

        void empty() {
            count = 0;
            alarmAfterLastMinute = false;
        }

        void passMinute(int pressure) {
            log(pressure);
            boolean alarm = hasAlarm();
            if (alarm && !alarmAfterLastMinute) {
                begun++;
            }
            alarmAfterLastMinute = alarm;
        }

        private void log(int pressure) {
            if (count >= MOST_LOGGED) {
                moveUp(pressures);
                count = MOST_LOGGED - 1;
            }
            if (count >= 0 && count < pressures.length) {
                pressures[count] = pressure;
                count++;
            }
        }

        boolean hasAlarm() {
            return presentFall() >= limit;
        }

        int presentFall() {
            return greatestOfLatest(count) - elementOf(pressures, count - 1);
        }

        /** The greatest of the latest pressures, of all if there are fewer; 0 if there are none. */
        int greatestOfLatest(int number) {
            int greatest = 0;
            for (int i = Math.max(0, count - number); i < count && i < pressures.length; i++) {
                if (pressures[i] > greatest) {
                    greatest = pressures[i];
                }
            }
            return greatest;
        }

        /** After how many minutes of a steady fall there is an alarm. */
        int minutesOfFall(int pressure, int perMinute) {
            // A log that holds nothing but the steady fall has the same fall for ever: what did not begin until then
            // does not begin.
            for (int minute = 1; minute <= MOST_LOGGED; minute++) {
                int latest = pressure - perMinute * minute;
                if (latest < LEAST_PRESSURE) {
                    return NONE;
                }
                int greatest = Math.max(greatestOfLatest(MOST_LOGGED - minute), pressure - perMinute);
                if (greatest - latest >= limit) {
                    return minute;
                }
            }
            return NONE;
        }
    }

    /** The marks, from the oldest one to the latest. No call asks for the descent of a mark, so none is kept. */
    private static final class Marks {
        private final int[] times = new int[MOST_MARKS];
        private final int[] heights = new int[MOST_MARKS];
        private final int[] ascents = new int[MOST_MARKS];
        int count;

        void copyFrom(Marks other) {
            copyRow(other.times, times);
            copyRow(other.heights, heights);
            copyRow(other.ascents, ascents);
            count = other.count;
        }

        void add(int time, int height, int ascent) {
            if (count >= MOST_MARKS) {
                moveUp(times);
                moveUp(heights);
                moveUp(ascents);
                count = MOST_MARKS - 1;
            }
            if (count >= 0 && count < times.length && count < heights.length && count < ascents.length) {
                times[count] = time;
                heights[count] = height;
                ascents[count] = ascent;
                count++;
            }
        }

        int timeOf(int mark) {
            return elementOf(times, mark);
        }

        int heightOf(int mark) {
            return elementOf(heights, mark);
        }

        int ascentOf(int mark) {
            return elementOf(ascents, mark);
        }
    }

    /** All that undo and the memories bring back. */
    private static final class State {
        boolean station;
        int stationHeight;
        int pressure = FIRST_PRESSURE;
        int sea = FIRST_PRESSURE;
        int minutes;
        int drift;
        int calibrations;
        final Climb climb = new Climb();
        final Weather weather = new Weather();
        final Marks marks = new Marks();

        void copyFrom(State other) {
            station = other.station;
            stationHeight = other.stationHeight;
            pressure = other.pressure;
            sea = other.sea;
            minutes = other.minutes;
            drift = other.drift;
            calibrations = other.calibrations;
            climb.copyFrom(other.climb);
            weather.copyFrom(other.weather);
            marks.copyFrom(other.marks);
        }

        int height() {
            return Air.heightAt(pressure, sea);
        }

        void switchStation(boolean on) {
            if (station == on) {
                return;
            }
            station = on;
            weather.empty();
            if (on) {
                stationHeight = height();
            } else {
                climb.base = height();
            }
        }

        void makeTrip(int tripMinutes, int lastPressure) {
            int firstPressure = pressure;
            for (int minute = 1; minute <= tripMinutes; minute++) {
                pressure = Air.onTheWay(firstPressure, lastPressure, minute, tripMinutes);
                minutes++;
                if (station) {
                    sea = Air.nearestSea(pressure, stationHeight);
                    weather.passMinute(pressure);
                } else {
                    climb.take(height());
                }
            }
        }

        void takeSea(int setting) {
            sea = setting;
            if (station) {
                stationHeight = height();
            }
            climb.base = height();
        }

        /** Calibrates; answers the error. */
        int correctTo(int altitude) {
            int error = height() - altitude;
            takeSea(Air.nearestSea(pressure, altitude));
            drift += error;
            calibrations++;
            return error;
        }

        void addMark() {
            marks.add(minutes, height(), climb.ascent);
        }

        int heightAfterTripTo(int lastPressure) {
            int lastSea = station ? Air.nearestSea(lastPressure, stationHeight) : sea;
            return Air.heightAt(lastPressure, lastSea);
        }

        int ascentOfTrip(int tripMinutes, int lastPressure) {
            if (station) {
                return 0;
            }
            Climb ahead = new Climb();
            ahead.copyFrom(climb);
            for (int minute = 1; minute <= tripMinutes; minute++) {
                ahead.take(Air.heightAt(Air.onTheWay(pressure, lastPressure, minute, tripMinutes), sea));
            }
            return ahead.ascent - climb.ascent;
        }

        int pressureAtHeight(int altitude) {
            return Air.greatestPressure(altitude + Air.standardAltitude(sea), LEAST_PRESSURE, MOST_PRESSURE);
        }

        int minutesUntilAlarm(int perMinute) {
            if (!station) {
                return NONE;
            }
            if (weather.hasAlarm()) {
                return 0;
            }
            return weather.minutesOfFall(pressure, perMinute);
        }
    }

    /** The latest states, in a ring of places that are made once and used again. */
    private static final class SavedStates {
        private final State[] places = new State[MOST_SAVED];
        private int next;
        int count;

        SavedStates() {
            for (int i = 0; i < places.length; i++) {
                places[i] = new State();
            }
        }

        void save(State state) {
            State place = placeOf(next);
            if (place != null) {
                place.copyFrom(state);
                next = (next + 1) % MOST_SAVED;
                count = Math.min(count + 1, MOST_SAVED);
            }
        }

        void restoreLast(State state) {
            int last = (next + MOST_SAVED - 1) % MOST_SAVED;
            State place = placeOf(last);
            if (count > 0 && place != null) {
                state.copyFrom(place);
                next = last;
                count--;
            }
        }

        private State placeOf(int index) {
            return index >= 0 && index < places.length ? places[index] : null;
        }
    }

    /** A memory with the state that it keeps, once it is filled. */
    private static final class Memory {
        final State kept = new State();
        boolean filled;
    }

    /** The buffer of the trip text. */
    private static final class TripText {
        final int[] codes = new int[MOST_CODES];
        int length;

        void put(int code) {
            if (length >= 0 && length < codes.length) {
                codes[length] = code;
                length++;
            }
        }

        /** Has the text read until its first error; answers the index of that error, or the length. */
        int readWith(TripReader reader) {
            for (int i = 0; i < length && i < codes.length; i++) {
                if (!reader.reads(codes[i])) {
                    return i;
                }
            }
            return length;
        }
    }

    /** Reads a text character by character, for as long as it can still become a trip text. */
    private static final class TripReader {
        static final int START = 0;
        static final int MINUTES = 1;
        static final int TRIP = 2;
        static final int CALIBRATION = 3;
        static final int SWITCH = 4;
        static final int MARK = 5;

        // No number of a trip text has more digits.
        private static final int MOST_DIGITS = 5;

        int part = START;
        int minutes;
        int number = NONE;

        /** Takes one more character; answers false, and takes nothing, if the character is an error. */
        boolean reads(int code) {
            if (code == ';') {
                return endsPart();
            }
            switch (part) {
                case START:
                    return startsPart(code);
                case MINUTES:
                    return code == '>' ? endsMinutes() : readsDigit(code, LEAST_TRIP, MOST_TRIP);
                case TRIP:
                    return readsDigit(code, LEAST_PRESSURE, MOST_PRESSURE);
                case CALIBRATION:
                    return readsDigit(code, LEAST_TEXT_ALTITUDE, MOST_ALTITUDE);
                default:
                    return false;
            }
        }

        /** Tells whether the part that is being read could end here. */
        boolean isPartWhole() {
            switch (part) {
                case TRIP:
                    return number >= LEAST_PRESSURE;
                case CALIBRATION:
                    return number >= LEAST_TEXT_ALTITUDE;
                case SWITCH:
                case MARK:
                    return true;
                default:
                    return false;
            }
        }

        private boolean startsPart(int code) {
            switch (code) {
                case 's':
                    part = SWITCH;
                    return true;
                case 'm':
                    part = MARK;
                    return true;
                case 'c':
                    part = CALIBRATION;
                    return true;
                default:
                    return startsMinutes(code);
            }
        }

        private boolean startsMinutes(int code) {
            if (!readsDigit(code, LEAST_TRIP, MOST_TRIP)) {
                return false;
            }
            part = MINUTES;
            return true;
        }

        private boolean endsMinutes() {
            minutes = number;
            number = NONE;
            part = TRIP;
            return true;
        }

        private boolean endsPart() {
            if (!isPartWhole()) {
                return false;
            }
            number = NONE;
            part = START;
            return true;
        }

        private boolean readsDigit(int code, int least, int most) {
            // A number that begins with 0 is over, as it would have a leading zero.
            if (code < '0' || code > '9' || number == 0) {
                return false;
            }
            int longer = Math.max(number, 0) * 10 + code - '0';
            if (!canGrowInto(longer, least, most)) {
                return false;
            }
            number = longer;
            return true;
        }

        /** Tells whether a number is from least to most, or can be so with more digits behind it. */
        private static boolean canGrowInto(int number, int least, int most) {
            if (number == 0) {
                return least <= 0;
            }
            int low = number;
            int high = number;
            for (int more = 0; more < MOST_DIGITS && low <= most; more++) {
                if (high >= least) {
                    return true;
                }
                low = low * 10;
                high = high * 10 + 9;
            }
            return false;
        }
    }
}
