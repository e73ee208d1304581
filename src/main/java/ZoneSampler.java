/** Sampler zones with round robins, layers of force and notes that choke each other; ../shared/DOC.md says what each call does. */
public final class ZoneSampler {
    /** An argument is out of its range, or there is no such zone or voice. */
    public static final int INVALID_ARGUMENT = -1;
    /** The call is not possible in the present state. */
    public static final int NOT_POSSIBLE = -2;
    /** A fixed limit has been reached. */
    public static final int LIMIT_REACHED = -3;
    /** There is no such value. */
    public static final int NOT_FOUND = -4;
    /** Numbers of the settings. */
    public static final int VOICES = 0, STEAL = 1, FADE = 2;

    private static final int LAST_KEY = 35, LAST_FORCE = 9, LAST_GROUP = 3, LAST_ROBIN = 4;
    private static final int LONGEST = 60, MOST_TICKS = 99, CHORD_KEYS = 6;
    private static final int MOST_ZONES = 10, MOST_VOICES = 8, MOST_STATES = 4, MOST_SIGNS = 60;
    private static final int FIRST_SIGN = 33, LAST_SIGN = 126;
    private static final int AS_ZONES = 0, AS_SCORE = 1;

    // The cells of a zone, as zoneOf numbers them.
    private static final int LOW = 0, HIGH = 1, SOFTEST = 2, HARDEST = 3, GROUP = 4, ROBIN = 5, LENGTH = 6;
    private static final int ZONE_CELLS = 7;

    // The cells of a voice, as the call voice numbers them, and behind them the note that began it.
    private static final int ZONE = 0, KEY = 1, FORCE = 2, LOUD = 3, AGE = 4, HOLD = 5, NOTE = 6;
    private static final int VOICE_CELLS = 7;
    private static final int HELD = 0, HUNG = 1, FREE = 2;

    // The numbers of a state, in the order of count(7) to count(19).
    private static final int TICKS = 0, BEGAN = 1, ENDED = 2, CHOKED = 3, STOLEN = 4, STOPPED = 5;
    private static final int SETTING = 6, TURN = 9, NUMBERS = 13;
    private static final int FIRST_COUNTED = 7;

    private final State now = new State();
    private final State trial = new State();
    private final State snapshot = new State();
    private final History history = new History();
    private final Pad pad = new Pad();
    private final Survey survey = new Survey();
    private boolean hasSnapshot;

    /** Creates a sampler without zones. */
    public ZoneSampler() {
    }

    // ---- zones

    /** A zone comes, without a group and a robin, with the length 60. */
    public int zone(int low, int high, int softest, int hardest) {
        if (!within(low, 0, LAST_KEY) || !within(high, low, LAST_KEY)) {
            return INVALID_ARGUMENT;
        }
        if (!within(softest, 1, LAST_FORCE) || !within(hardest, softest, LAST_FORCE)) {
            return INVALID_ARGUMENT;
        }
        if (now.zones.rows() >= MOST_ZONES) {
            return LIMIT_REACHED;
        }
        history.record(now);
        return now.addZone(low, high, softest, hardest);
    }

    /** Changes what a zone is like. */
    public int like(int zone, int group, int robin, int length) {
        if (!now.zones.has(zone) || !within(group, 0, LAST_GROUP)) {
            return INVALID_ARGUMENT;
        }
        if (!within(robin, 0, LAST_ROBIN) || !within(length, 1, LONGEST)) {
            return INVALID_ARGUMENT;
        }
        history.record(now);
        now.shapeZone(zone, group, robin, length);
        return group == 0 ? 0 : now.zones.rowsWith(GROUP, group);
    }

    /** Takes a zone away. */
    public int takeZone(int zone) {
        if (!now.zones.has(zone)) {
            return INVALID_ARGUMENT;
        }
        history.record(now);
        return now.dropZone(zone);
    }

    // ---- notes

    /** Hits a note. */
    public int hit(int key, int force) {
        if (!isNote(key, force)) {
            return INVALID_ARGUMENT;
        }
        history.record(now);
        return now.strike(key, force);
    }

    /** Lets a key go. */
    public int letGo(int key) {
        if (!within(key, 0, LAST_KEY)) {
            return INVALID_ARGUMENT;
        }
        history.record(now);
        return now.release(key);
    }

    /** Presses the pedal down, or lifts it, if it is down. */
    public int pedal() {
        history.record(now);
        return now.tread();
    }

    /** Lets ticks pass. */
    public int pass(int ticks) {
        if (!within(ticks, 1, MOST_TICKS)) {
            return INVALID_ARGUMENT;
        }
        history.record(now);
        return now.runTicks(ticks);
    }

    /** Stops all voices. */
    public int silence() {
        history.record(now);
        return now.stopAll();
    }

    /** Changes a setting. */
    public int set(int what, int value) {
        if (!isSetting(what, value)) {
            return INVALID_ARGUMENT;
        }
        history.record(now);
        int before = now.number(SETTING + what);
        now.putNumber(SETTING + what, value);
        if (what == VOICES) {
            now.stealDownTo(value);
        }
        return before;
    }

    // ---- texts

    /** Appends a character to the pad. */
    public int append(int code) {
        if (!within(code, FIRST_SIGN, LAST_SIGN)) {
            return INVALID_ARGUMENT;
        }
        if (pad.length() >= MOST_SIGNS) {
            return LIMIT_REACHED;
        }
        pad.add((char) code);
        return pad.length();
    }

    /** Empties the pad. */
    public int clear() {
        int before = pad.length();
        pad.empty();
        return before;
    }

    /** Returns the fault of the pad. */
    public int fault(int way) {
        if (!within(way, AS_ZONES, AS_SCORE)) {
            return INVALID_ARGUMENT;
        }
        return pad.faultAs(way);
    }

    /** Adds the zones of the pad, one after the other, and empties the pad. */
    public int load() {
        if (pad.faultAs(AS_ZONES) != NOT_FOUND) {
            return NOT_POSSIBLE;
        }
        int coming = pad.items();
        if (now.zones.rows() + coming > MOST_ZONES) {
            return LIMIT_REACHED;
        }
        history.record(now);
        pad.rewind();
        for (int item = 0; item < coming; item++) {
            if (pad.readZone()) {
                int zone = now.addZone(pad.low, pad.high, pad.softest, pad.hardest);
                now.shapeZone(zone, pad.group, pad.robin, pad.lasting);
            }
            pad.readSign(';');
        }
        pad.empty();
        return now.zones.rows();
    }

    /** Plays the score of the pad, and empties the pad. This is one change. */
    public int play() {
        if (pad.faultAs(AS_SCORE) != NOT_FOUND) {
            return NOT_POSSIBLE;
        }
        history.record(now);
        int before = now.number(BEGAN);
        int coming = pad.items();
        pad.rewind();
        for (int item = 0; item < coming; item++) {
            if (pad.readDeed()) {
                doDeed();
            }
            pad.readSign(';');
        }
        pad.empty();
        return now.number(BEGAN) - before;
    }

    // ---- looks; nothing is changed

    /** Returns a property of a zone. */
    public int zoneOf(int zone, int what) {
        if (!now.zones.has(zone) || !within(what, 0, 8)) {
            return INVALID_ARGUMENT;
        }
        if (what == 7) {
            return now.voices.rowsWith(ZONE, zone);
        }
        if (what == 8) {
            return now.canSound(zone) ? 1 : 0;
        }
        return now.zones.get(zone, what);
    }

    /** Returns a property of a voice. */
    public int voice(int voice, int what) {
        if (!now.voices.has(voice) || !within(what, 0, 6)) {
            return INVALID_ARGUMENT;
        }
        return what == 6 ? now.stealPlace(voice) : now.voices.get(voice, what);
    }

    /** Tells how many zones answer a note. */
    public int answers(int key, int force) {
        return isNote(key, force) ? now.matching(key, force) : INVALID_ARGUMENT;
    }

    /** Returns a number of the whole map of keys and forces. */
    public int map(int what, int way) {
        if (!within(what, 0, 3) || !within(way, 0, 1)) {
            return INVALID_ARGUMENT;
        }
        if (way == 0) {
            survey.goByPlaces(now);
        } else {
            survey.goByEdges(now);
        }
        return survey.finding(what);
    }

    /** Returns a number. */
    public int count(int what) {
        if (!within(what, 0, 21)) {
            return INVALID_ARGUMENT;
        }
        if (what >= FIRST_COUNTED && what < FIRST_COUNTED + NUMBERS) {
            return now.number(what - FIRST_COUNTED);
        }
        switch (what) {
            case 0:
                return now.zones.rows();
            case 1:
                return now.voices.rows();
            case 2:
                return now.voices.rowsWith(HOLD, HELD);
            case 3:
                return now.voices.rowsWith(HOLD, HUNG);
            case 4:
                return now.voices.rowsWith(HOLD, FREE);
            case 5:
                return now.voices.sumOf(LOUD);
            case 6:
                return now.pedalDown ? 1 : 0;
            case 20:
                return pad.length();
            default:
                return history.size();
        }
    }

    /** Returns how loud a voice is on the mean. */
    public double loudness() {
        int voices = now.voices.rows();
        return voices > 0 ? (double) now.voices.sumOf(LOUD) / voices : 0.0;
    }

    // ---- what would be; nothing is changed

    /** Tells what a note would bring. */
    public int ifHit(int key, int force, int what) {
        if (!isNote(key, force) || !within(what, 0, 4)) {
            return INVALID_ARGUMENT;
        }
        if (what == 3) {
            return now.firstSounding(key, force);
        }
        trial.copyFrom(now);
        int begun = trial.strike(key, force);
        switch (what) {
            case 0:
                return begun;
            case 1:
                return trial.number(CHOKED) - now.number(CHOKED);
            case 2:
                return trial.number(STOLEN) - now.number(STOLEN);
            default:
                return trial.voices.rows();
        }
    }

    /** Tells how long it would be until all is silent, if nothing else was done. */
    public int silentIn() {
        int longest = 0;
        for (int voice = 0; voice < now.voices.rows(); voice++) {
            longest = Math.max(longest, now.ticksLeft(voice));
        }
        return longest;
    }

    /** Tells how many voices a chord would need. */
    public int chord(int keys, int octave, int force) {
        if (!within(keys, 1, 63) || !within(octave, 0, 5) || !within(force, 1, LAST_FORCE)) {
            return INVALID_ARGUMENT;
        }
        int needed = 0;
        for (int k = 0; k < CHORD_KEYS; k++) {
            if ((keys >> k & 1) == 1) {
                needed += now.sounding(CHORD_KEYS * octave + k, force);
            }
        }
        return needed;
    }

    // ---- history, snapshot

    /** Undoes the latest change: everything but the pad and the snapshot is as it was before it. */
    public int undo() {
        if (history.size() == 0) {
            return NOT_POSSIBLE;
        }
        history.goBack(now);
        return history.size();
    }

    /** Takes a snapshot of everything but the pad and the history, in place of the one that was. */
    public int save() {
        snapshot.copyFrom(now);
        hasSnapshot = true;
        return now.voices.rows();
    }

    /** Restores the snapshot, which stays. */
    public int restore() {
        if (!hasSnapshot) {
            return NOT_POSSIBLE;
        }
        history.record(now);
        now.copyFrom(snapshot);
        return now.voices.rows();
    }

    private void doDeed() {
        switch (pad.deed) {
            case 'n':
                now.strike(pad.deedKey, pad.amount);
                break;
            case 'o':
                now.release(pad.deedKey);
                break;
            case 'p':
                now.tread();
                break;
            default:
                now.runTicks(pad.amount);
                break;
        }
    }

    private static boolean within(int value, int least, int most) {
        return value >= least && value <= most;
    }

    private static boolean isNote(int key, int force) {
        return within(key, 0, LAST_KEY) && within(force, 1, LAST_FORCE);
    }

    private static boolean isSetting(int what, int value) {
        switch (what) {
            case VOICES:
                return within(value, 1, MOST_VOICES);
            case STEAL:
                return within(value, 0, 2);
            case FADE:
                return within(value, 1, 50);
            default:
                return false;
        }
    }

    /** Rows of whole numbers in one array that is made once. Every index is tested here, so no caller can leave the array. */
    private static final class Table {
        private final int width;
        private final int[] cells;
        private int rows;

        Table(int most, int width) {
            this.width = width > 0 ? width : 1;
            this.cells = new int[most > 0 ? most * this.width : 0];
        }

        int rows() {
            return rows;
        }

        boolean has(int row) {
            return row >= 0 && row < rows;
        }

        int get(int row, int column) {
            if (row < 0 || row >= rows || column < 0 || column >= width) {
                return 0;
            }
            int cell = row * width + column;
            return cell < cells.length ? cells[cell] : 0;
        }

        void put(int row, int column, int value) {
            if (row < 0 || row >= rows || column < 0 || column >= width) {
                return;
            }
            int cell = row * width + column;
            if (cell < cells.length) {
                cells[cell] = value;
            }
        }

        /** Adds a row and tells its number, or -1 if there is no room. */
        int addRow() {
            if ((rows + 1) * width > cells.length) {
                return -1;
            }
            rows++;
            return rows - 1;
        }

        void removeRow(int row) {
            if (!has(row)) {
                return;
            }
            for (int cell = row * width; cell < cells.length - width; cell++) {
                cells[cell] = cells[cell + width];
            }
            rows--;
        }

        int rowsWith(int column, int value) {
            int found = 0;
            for (int row = 0; row < rows; row++) {
                if (get(row, column) == value) {
                    found++;
                }
            }
            return found;
        }

        int sumOf(int column) {
            int sum = 0;
            for (int row = 0; row < rows; row++) {
                sum += get(row, column);
            }
            return sum;
        }

        void removeAll() {
            rows = 0;
        }

        void copyFrom(Table other) {
            System.arraycopy(other.cells, 0, cells, 0, Math.min(cells.length, other.cells.length));
            rows = other.rows;
        }
    }

    /** Everything but the pad, the history and the snapshot. */
    private static final class State {
        private final Table zones = new Table(MOST_ZONES, ZONE_CELLS);
        private final Table voices = new Table(MOST_VOICES, VOICE_CELLS);
        private final int[] numbers = new int[NUMBERS];
        private boolean pedalDown;
        private int notes;

        State() {
            putNumber(SETTING + VOICES, 6);
            putNumber(SETTING + STEAL, 0);
            putNumber(SETTING + FADE, 10);
        }

        void copyFrom(State other) {
            zones.copyFrom(other.zones);
            voices.copyFrom(other.voices);
            System.arraycopy(other.numbers, 0, numbers, 0, Math.min(numbers.length, other.numbers.length));
            pedalDown = other.pedalDown;
            notes = other.notes;
        }

        int number(int which) {
            return which >= 0 && which < numbers.length ? numbers[which] : 0;
        }

        void putNumber(int which, int value) {
            if (which >= 0 && which < numbers.length) {
                numbers[which] = value;
            }
        }

        private void grow(int which, int by) {
            putNumber(which, number(which) + by);
        }

        int addZone(int low, int high, int softest, int hardest) {
            int zone = zones.addRow();
            zones.put(zone, LOW, low);
            zones.put(zone, HIGH, high);
            zones.put(zone, SOFTEST, softest);
            zones.put(zone, HARDEST, hardest);
            shapeZone(zone, 0, 0, LONGEST);
            return zone;
        }

        void shapeZone(int zone, int group, int robin, int length) {
            zones.put(zone, GROUP, group);
            zones.put(zone, ROBIN, robin);
            zones.put(zone, LENGTH, length);
        }

        int dropZone(int zone) {
            int stopped = 0;
            for (int voice = voices.rows() - 1; voice >= 0; voice--) {
                int of = voices.get(voice, ZONE);
                if (of == zone) {
                    voices.removeRow(voice);
                    stopped++;
                } else if (of > zone) {
                    voices.put(voice, ZONE, of - 1);
                }
            }
            zones.removeRow(zone);
            grow(STOPPED, stopped);
            return stopped;
        }

        boolean matches(int zone, int key, int force) {
            return key >= zones.get(zone, LOW) && key <= zones.get(zone, HIGH)
                    && force >= zones.get(zone, SOFTEST) && force <= zones.get(zone, HARDEST);
        }

        int matching(int key, int force) {
            int found = 0;
            for (int zone = 0; zone < zones.rows(); zone++) {
                if (matches(zone, key, force)) {
                    found++;
                }
            }
            return found;
        }

        /** Whether the note would make this zone sound, by the turns as they are. */
        boolean sounds(int zone, int key, int force) {
            if (!matches(zone, key, force)) {
                return false;
            }
            int robin = zones.get(zone, ROBIN);
            if (robin == 0) {
                return true;
            }
            int sharing = 0;
            int place = 0;
            for (int other = 0; other < zones.rows(); other++) {
                if (zones.get(other, ROBIN) == robin && matches(other, key, force)) {
                    sharing++;
                    place += other < zone ? 1 : 0;
                }
            }
            return sharing > 0 && place == number(TURN + robin - 1) % sharing;
        }

        int sounding(int key, int force) {
            int found = 0;
            for (int zone = 0; zone < zones.rows(); zone++) {
                if (sounds(zone, key, force)) {
                    found++;
                }
            }
            return found;
        }

        int firstSounding(int key, int force) {
            for (int zone = 0; zone < zones.rows(); zone++) {
                if (sounds(zone, key, force)) {
                    return zone;
                }
            }
            return NOT_FOUND;
        }

        boolean canSound(int zone) {
            for (int key = zones.get(zone, LOW); key <= zones.get(zone, HIGH); key++) {
                for (int force = zones.get(zone, SOFTEST); force <= zones.get(zone, HARDEST); force++) {
                    if (sounds(zone, key, force)) {
                        return true;
                    }
                }
            }
            return false;
        }

        int strike(int key, int force) {
            moveHeld(key, FREE);
            notes++;
            int begun = 0;
            for (int zone = 0; zone < zones.rows(); zone++) {
                if (sounds(zone, key, force)) {
                    begin(zone, key, force);
                    begun++;
                }
            }
            passTurns(key, force);
            return begun;
        }

        // Turns grow only behind the whole note, as each zone of the note is chosen by the turns before it.
        private void passTurns(int key, int force) {
            for (int robin = 1; robin <= LAST_ROBIN; robin++) {
                boolean answered = false;
                for (int zone = 0; zone < zones.rows(); zone++) {
                    answered |= zones.get(zone, ROBIN) == robin && matches(zone, key, force);
                }
                grow(TURN + robin - 1, answered ? 1 : 0);
            }
        }

        private void begin(int zone, int key, int force) {
            choke(zones.get(zone, GROUP));
            stealDownTo(number(SETTING + VOICES) - 1);
            int voice = voices.addRow();
            voices.put(voice, ZONE, zone);
            voices.put(voice, KEY, key);
            voices.put(voice, FORCE, force);
            voices.put(voice, LOUD, 10 * force);
            voices.put(voice, AGE, 0);
            voices.put(voice, HOLD, HELD);
            voices.put(voice, NOTE, notes);
            grow(BEGAN, 1);
        }

        private void choke(int group) {
            if (group == 0) {
                return;
            }
            for (int voice = voices.rows() - 1; voice >= 0; voice--) {
                boolean earlier = voices.get(voice, NOTE) != notes;
                if (earlier && zones.get(voices.get(voice, ZONE), GROUP) == group) {
                    voices.removeRow(voice);
                    grow(CHOKED, 1);
                }
            }
        }

        void stealDownTo(int most) {
            for (int left = voices.rows(); left > most && left > 0; left--) {
                int next = 0;
                for (int voice = 1; voice < voices.rows(); voice++) {
                    next = stealRank(voice) < stealRank(next) ? voice : next;
                }
                voices.removeRow(next);
                grow(STOLEN, 1);
            }
        }

        int stealPlace(int voice) {
            int own = stealRank(voice);
            int place = 0;
            for (int other = 0; other < voices.rows(); other++) {
                int rank = stealRank(other);
                if (rank < own || rank == own && other < voice) {
                    place++;
                }
            }
            return place;
        }

        /** The voice of the least rank is stolen first, of several the one that began first. */
        private int stealRank(int voice) {
            switch (number(SETTING + STEAL)) {
                case 0:
                    return -voices.get(voice, AGE);
                case 1:
                    return voices.get(voice, LOUD);
                default:
                    return -voices.get(voice, HOLD);
            }
        }

        int release(int key) {
            return moveHeld(key, pedalDown ? HUNG : FREE);
        }

        private int moveHeld(int key, int hold) {
            int moved = 0;
            for (int voice = 0; voice < voices.rows(); voice++) {
                if (voices.get(voice, KEY) == key && voices.get(voice, HOLD) == HELD) {
                    voices.put(voice, HOLD, hold);
                    moved++;
                }
            }
            return moved;
        }

        int tread() {
            pedalDown = !pedalDown;
            if (pedalDown) {
                return 0;
            }
            int freed = 0;
            for (int voice = 0; voice < voices.rows(); voice++) {
                if (voices.get(voice, HOLD) == HUNG) {
                    voices.put(voice, HOLD, FREE);
                    freed++;
                }
            }
            return freed;
        }

        int runTicks(int ticks) {
            int before = number(ENDED);
            for (int tick = 0; tick < ticks; tick++) {
                for (int voice = voices.rows() - 1; voice >= 0; voice--) {
                    wear(voice);
                }
            }
            grow(TICKS, ticks);
            return number(ENDED) - before;
        }

        private void wear(int voice) {
            int age = voices.get(voice, AGE) + 1;
            int loud = voices.get(voice, LOUD) - fadeOf(voice);
            voices.put(voice, AGE, age);
            voices.put(voice, LOUD, loud);
            if (loud <= 0 || age >= zones.get(voices.get(voice, ZONE), LENGTH)) {
                voices.removeRow(voice);
                grow(ENDED, 1);
            }
        }

        private int fadeOf(int voice) {
            return voices.get(voice, HOLD) == FREE ? number(SETTING + FADE) : 1;
        }

        /** Ticks until the voice ends; at least 1, as a zone's length may have become less than the voice's age. */
        int ticksLeft(int voice) {
            int fade = Math.max(1, fadeOf(voice));
            int byLoudness = (voices.get(voice, LOUD) + fade - 1) / fade;
            int byAge = zones.get(voices.get(voice, ZONE), LENGTH) - voices.get(voice, AGE);
            return Math.max(1, Math.min(byLoudness, byAge));
        }

        int stopAll() {
            int stopped = voices.rows();
            voices.removeAll();
            grow(STOPPED, stopped);
            return stopped;
        }
    }

    /** The states before the latest changes, the oldest one first; only the first `kept` ones count. */
    private static final class History {
        private State first = new State();
        private State second = new State();
        private State third = new State();
        private State fourth = new State();
        private int kept;

        int size() {
            return kept;
        }

        void record(State state) {
            if (kept >= MOST_STATES) {
                // The oldest state is dropped, and its rows are used again for the newest one.
                State oldest = first;
                first = second;
                second = third;
                third = fourth;
                fourth = oldest;
                kept--;
            }
            stateAt(kept).copyFrom(state);
            kept++;
        }

        void goBack(State state) {
            if (kept > 0) {
                kept--;
                state.copyFrom(stateAt(kept));
            }
        }

        private State stateAt(int place) {
            switch (place) {
                case 0:
                    return first;
                case 1:
                    return second;
                case 2:
                    return third;
                default:
                    return fourth;
            }
        }
    }

    /** What one look over all places of keys and forces finds. */
    private static final class Survey {
        private final int[] depths = new int[LAST_FORCE];
        private int holes;
        private int overlaps;
        private int deepest;
        private int firstHole;

        int finding(int what) {
            switch (what) {
                case 0:
                    return holes;
                case 1:
                    return overlaps;
                case 2:
                    return deepest;
                default:
                    return firstHole;
            }
        }

        void goByPlaces(State state) {
            start();
            for (int key = 0; key <= LAST_KEY; key++) {
                for (int force = 1; force <= LAST_FORCE; force++) {
                    see(key, state.matching(key, force));
                }
            }
        }

        void goByEdges(State state) {
            start();
            for (int key = 0; key <= LAST_KEY; key++) {
                for (int zone = 0; zone < state.zones.rows(); zone++) {
                    if (state.zones.get(zone, LOW) == key) {
                        deepen(state.zones, zone, 1);
                    }
                    if (state.zones.get(zone, HIGH) == key - 1) {
                        deepen(state.zones, zone, -1);
                    }
                }
                for (int i = 0; i < depths.length; i++) {
                    see(key, depths[i]);
                }
            }
        }

        private void deepen(Table zones, int zone, int by) {
            for (int i = 0; i < depths.length; i++) {
                if (i + 1 >= zones.get(zone, SOFTEST) && i + 1 <= zones.get(zone, HARDEST)) {
                    depths[i] += by;
                }
            }
        }

        private void start() {
            for (int i = 0; i < depths.length; i++) {
                depths[i] = 0;
            }
            holes = 0;
            overlaps = 0;
            deepest = 0;
            firstHole = NOT_FOUND;
        }

        private void see(int key, int depth) {
            if (depth == 0) {
                holes++;
                firstHole = firstHole == NOT_FOUND ? key : firstHole;
            }
            overlaps += depth >= 2 ? 1 : 0;
            deepest = Math.max(deepest, depth);
        }
    }

    /** The pad, and a reader that stands behind all that was right so far: where it stops is the fault. */
    private static final class Pad {
        private static final int END = 0;

        private final char[] signs = new char[MOST_SIGNS];
        private int length;
        private int at;
        private int value;
        private int low, high, softest, hardest, lasting, group, robin;
        private int deed, deedKey, amount;

        int length() {
            return length;
        }

        void add(char sign) {
            if (length >= 0 && length < signs.length) {
                signs[length] = sign;
                length++;
            }
        }

        void empty() {
            length = 0;
        }

        void rewind() {
            at = 0;
        }

        /** How many parts stand between the ";", right or wrong. */
        int items() {
            int found = 1;
            for (int i = 0; i < length && i < signs.length; i++) {
                found += signs[i] == ';' ? 1 : 0;
            }
            return found;
        }

        int faultAs(int way) {
            rewind();
            int most = items();
            for (int item = 0; item < most; item++) {
                boolean right = way == AS_ZONES ? readZone() : readDeed();
                if (right && at >= length) {
                    return NOT_FOUND;
                }
                if (!right || !readSign(';')) {
                    return at;
                }
            }
            return at;
        }

        boolean readSign(int sign) {
            boolean same = sign() == sign;
            at += same ? 1 : 0;
            return same;
        }

        boolean readZone() {
            if (!readNumber(0, LAST_KEY)) {
                return false;
            }
            low = value;
            if (!readSign('-') || !readNumber(low, LAST_KEY)) {
                return false;
            }
            high = value;
            if (!readSign(',') || !readNumber(1, LAST_FORCE)) {
                return false;
            }
            softest = value;
            if (!readSign('-') || !readNumber(softest, LAST_FORCE)) {
                return false;
            }
            hardest = value;
            if (!readSign(',') || !readNumber(1, LONGEST)) {
                return false;
            }
            lasting = value;
            if (!readMark('g', LAST_GROUP)) {
                return false;
            }
            group = value;
            boolean right = readMark('r', LAST_ROBIN);
            robin = value;
            return right;
        }

        private boolean readMark(int mark, int most) {
            value = 0;
            return !readSign(mark) || readNumber(1, most);
        }

        boolean readDeed() {
            deed = sign();
            switch (deed) {
                case 'n':
                    at++;
                    return readDeedKey() && readSign('.') && readAmount(LAST_FORCE);
                case 'o':
                    at++;
                    return readDeedKey();
                case 'p':
                    at++;
                    return true;
                case 't':
                    at++;
                    return readAmount(MOST_TICKS);
                default:
                    return false;
            }
        }

        private boolean readDeedKey() {
            boolean right = readNumber(0, LAST_KEY);
            deedKey = value;
            return right;
        }

        private boolean readAmount(int most) {
            boolean right = readNumber(1, most);
            amount = value;
            return right;
        }

        /** Reads as many digits as a number from least to most (99 at most) can begin with. */
        private boolean readNumber(int least, int most) {
            value = 0;
            boolean any = false;
            for (int digits = 0; digits < 2; digits++) {
                int sign = sign();
                int longer = 10 * value + sign - '0';
                boolean zeroAhead = any && value == 0;
                if (sign < '0' || sign > '9' || zeroAhead || !canBegin(longer, least, most)) {
                    break;
                }
                value = longer;
                any = true;
                at++;
            }
            return any && value >= least && value <= most;
        }

        private static boolean canBegin(int start, int least, int most) {
            boolean whole = start >= least && start <= most;
            boolean goesOn = start > 0 && 10 * start <= most && 10 * start + 9 >= least;
            return whole || goesOn;
        }

        private int sign() {
            return at >= 0 && at < length && at < signs.length ? signs[at] : END;
        }
    }
}
