import java.util.ArrayDeque;
import java.util.ArrayList;
import java.util.Arrays;
import java.util.Deque;
import java.util.List;
import java.util.regex.Matcher;
import java.util.regex.Pattern;

/**
 * The document once more, told in another way than in ZoneSampler: with lists and deep copies, questions answered by
 * doing the thing on a copy, and texts read by regular expressions.
 */
final class Model {
    static final int BAD = -1, NOT_NOW = -2, FULL = -3, NONE = -4;

    static final class Zone {
        final int low, high, soft, hard;
        int group, robin, length = 60;

        Zone(int low, int high, int soft, int hard) {
            this.low = low;
            this.high = high;
            this.soft = soft;
            this.hard = hard;
        }

        boolean hears(int key, int force) {
            return low <= key && key <= high && soft <= force && force <= hard;
        }
    }

    static final class Voice {
        Zone zone;
        int key, force, loud, age, hold;
        boolean fresh;
    }

    static final class World {
        List<Zone> zones = new ArrayList<>();
        List<Voice> voices = new ArrayList<>();
        int[] settings = {6, 0, 10};
        int[] turns = new int[5];
        boolean down;
        int ticks, began, ended, choked, stolen, stopped;

        World copy() {
            World w = new World();
            for (Zone z : zones) {
                Zone c = new Zone(z.low, z.high, z.soft, z.hard);
                c.group = z.group;
                c.robin = z.robin;
                c.length = z.length;
                w.zones.add(c);
            }
            for (Voice v : voices) {
                Voice c = new Voice();
                c.zone = w.zones.get(zones.indexOf(v.zone));
                c.key = v.key;
                c.force = v.force;
                c.loud = v.loud;
                c.age = v.age;
                c.hold = v.hold;
                w.voices.add(c);
            }
            w.settings = settings.clone();
            w.turns = turns.clone();
            w.down = down;
            w.ticks = ticks;
            w.began = began;
            w.ended = ended;
            w.choked = choked;
            w.stolen = stolen;
            w.stopped = stopped;
            return w;
        }

        List<Zone> chosen(int key, int force) {
            List<Zone> all = new ArrayList<>();
            for (Zone z : zones) {
                if (z.hears(key, force)) {
                    all.add(z);
                }
            }
            List<Zone> out = new ArrayList<>(all);
            for (int r = 1; r <= 4; r++) {
                List<Zone> of = new ArrayList<>();
                for (Zone z : all) {
                    if (z.robin == r) {
                        of.add(z);
                    }
                }
                if (!of.isEmpty()) {
                    Zone winner = of.get(turns[r] % of.size());
                    of.remove(winner);
                    out.removeAll(of);
                }
            }
            return out;
        }

        int hit(int key, int force) {
            for (Voice v : voices) {
                v.fresh = false;
                if (v.key == key && v.hold == 0) {
                    v.hold = 2;
                }
            }
            List<Zone> list = chosen(key, force);
            for (Zone z : list) {
                start(z, key, force);
            }
            for (int r = 1; r <= 4; r++) {
                for (Zone z : list) {
                    if (z.robin == r) {
                        turns[r]++;
                    }
                }
            }
            return list.size();
        }

        void start(Zone z, int key, int force) {
            if (z.group > 0) {
                int before = voices.size();
                voices.removeIf(v -> !v.fresh && v.zone.group == z.group);
                choked += before - voices.size();
            }
            if (voices.size() >= settings[0]) {
                steal();
            }
            Voice v = new Voice();
            v.zone = z;
            v.key = key;
            v.force = force;
            v.loud = 10 * force;
            v.fresh = true;
            voices.add(v);
            began++;
        }

        Voice victim() {
            Voice best = null;
            for (Voice v : voices) {
                if (best == null) {
                    best = v;
                } else if (settings[1] == 0 && v.age > best.age) {
                    best = v;
                } else if (settings[1] == 1 && v.loud < best.loud) {
                    best = v;
                } else if (settings[1] == 2 && v.hold > best.hold) {
                    best = v;
                }
            }
            return best;
        }

        void steal() {
            voices.remove(victim());
            stolen++;
        }

        int letGo(int key) {
            int n = 0;
            for (Voice v : voices) {
                if (v.key == key && v.hold == 0) {
                    v.hold = down ? 1 : 2;
                    n++;
                }
            }
            return n;
        }

        int pedal() {
            down = !down;
            int n = 0;
            for (Voice v : voices) {
                if (!down && v.hold == 1) {
                    v.hold = 2;
                    n++;
                }
            }
            return n;
        }

        int tick() {
            ticks++;
            for (Voice v : voices) {
                v.age++;
                v.loud -= v.hold == 2 ? settings[2] : 1;
            }
            int before = voices.size();
            voices.removeIf(v -> v.loud <= 0 || v.age >= v.zone.length);
            ended += before - voices.size();
            return before - voices.size();
        }

        int pass(int n) {
            int sum = 0;
            for (int i = 0; i < n; i++) {
                sum += tick();
            }
            return sum;
        }
    }

    private static final Pattern ZONES = Pattern.compile(zoneText() + "(;" + zoneText() + ")*");
    private static final Pattern SCORE = Pattern.compile(deedText() + "(;" + deedText() + ")*");
    private static final Pattern ONE_ZONE =
        Pattern.compile("([0-9]+)-([0-9]+),([0-9])-([0-9]),([0-9]+)(?:g([0-9]))?(?:r([0-9]))?");

    private static String pairs(int least, int most) {
        StringBuilder sb = new StringBuilder("(?:");
        for (int a = least; a <= most; a++) {
            for (int b = a; b <= most; b++) {
                sb.append(sb.length() > 3 ? "|" : "").append(a).append('-').append(b);
            }
        }
        return sb.append(')').toString();
    }

    private static String numbers(int least, int most) {
        StringBuilder sb = new StringBuilder("(?:");
        for (int a = least; a <= most; a++) {
            sb.append(a > least ? "|" : "").append(a);
        }
        return sb.append(')').toString();
    }

    private static String zoneText() {
        return "(?:" + pairs(0, 35) + "," + pairs(1, 9) + "," + numbers(1, 60) + "(?:g[123])?(?:r[1234])?)";
    }

    private static String deedText() {
        return "(?:n" + numbers(0, 35) + "\\.[1-9]|o" + numbers(0, 35) + "|p|t" + numbers(1, 99) + ")";
    }

    World w = new World();
    World snap;
    final Deque<World> past = new ArrayDeque<>();
    final StringBuilder pad = new StringBuilder();

    private void change() {
        past.addLast(w.copy());
        if (past.size() > 4) {
            past.removeFirst();
        }
    }

    private static boolean in(int x, int a, int b) {
        return a <= x && x <= b;
    }

    int zone(int low, int high, int softest, int hardest) {
        if (low < 0 || high > 35 || low > high || softest < 1 || hardest > 9 || softest > hardest) {
            return BAD;
        }
        if (w.zones.size() == 10) {
            return FULL;
        }
        change();
        w.zones.add(new Zone(low, high, softest, hardest));
        return w.zones.size() - 1;
    }

    int like(int zone, int group, int robin, int length) {
        if (!in(zone, 0, w.zones.size() - 1) || !in(group, 0, 3) || !in(robin, 0, 4) || !in(length, 1, 60)) {
            return BAD;
        }
        change();
        Zone z = w.zones.get(zone);
        z.group = group;
        z.robin = robin;
        z.length = length;
        int n = 0;
        for (Zone o : w.zones) {
            n += group > 0 && o.group == group ? 1 : 0;
        }
        return n;
    }

    int takeZone(int zone) {
        if (!in(zone, 0, w.zones.size() - 1)) {
            return BAD;
        }
        change();
        Zone z = w.zones.remove(zone);
        int before = w.voices.size();
        w.voices.removeIf(v -> v.zone == z);
        w.stopped += before - w.voices.size();
        return before - w.voices.size();
    }

    int hit(int key, int force) {
        if (!in(key, 0, 35) || !in(force, 1, 9)) {
            return BAD;
        }
        change();
        return w.hit(key, force);
    }

    int letGo(int key) {
        if (!in(key, 0, 35)) {
            return BAD;
        }
        change();
        return w.letGo(key);
    }

    int pedal() {
        change();
        return w.pedal();
    }

    int pass(int ticks) {
        if (!in(ticks, 1, 99)) {
            return BAD;
        }
        change();
        return w.pass(ticks);
    }

    int silence() {
        change();
        int n = w.voices.size();
        w.stopped += n;
        w.voices.clear();
        return n;
    }

    int set(int what, int value) {
        int[] least = {1, 0, 1};
        int[] most = {8, 2, 50};
        if (!in(what, 0, 2) || !in(value, least[what], most[what])) {
            return BAD;
        }
        change();
        int old = w.settings[what];
        w.settings[what] = value;
        while (w.voices.size() > w.settings[0]) {
            w.steal();
        }
        return old;
    }

    int append(int code) {
        if (!in(code, 33, 126)) {
            return BAD;
        }
        if (pad.length() == 60) {
            return FULL;
        }
        pad.append((char) code);
        return pad.length();
    }

    int clear() {
        int n = pad.length();
        pad.setLength(0);
        return n;
    }

    /** The longest beginning of the pad with which a right text of any length can begin, by the matcher's hitEnd. */
    int fault(int way) {
        if (!in(way, 0, 1)) {
            return BAD;
        }
        Pattern p = way == 0 ? ZONES : SCORE;
        for (int n = 1; n <= pad.length(); n++) {
            Matcher m = p.matcher(pad.substring(0, n));
            if (!m.matches() && !m.hitEnd()) {
                return n - 1;
            }
        }
        return p.matcher(pad).matches() ? NONE : pad.length();
    }

    int load() {
        if (fault(0) != NONE) {
            return NOT_NOW;
        }
        String[] parts = pad.toString().split(";");
        if (w.zones.size() + parts.length > 10) {
            return FULL;
        }
        change();
        for (String part : parts) {
            Matcher m = ONE_ZONE.matcher(part);
            if (!m.matches()) {
                throw new IllegalStateException(part);
            }
            Zone z = new Zone(num(m, 1), num(m, 2), num(m, 3), num(m, 4));
            z.length = num(m, 5);
            z.group = num(m, 6);
            z.robin = num(m, 7);
            w.zones.add(z);
        }
        pad.setLength(0);
        return w.zones.size();
    }

    private static int num(Matcher m, int group) {
        return m.group(group) == null ? 0 : Integer.parseInt(m.group(group));
    }

    int play() {
        if (fault(1) != NONE) {
            return NOT_NOW;
        }
        change();
        int n = 0;
        for (String deed : pad.toString().split(";")) {
            String rest = deed.substring(1);
            switch (deed.charAt(0)) {
                case 'n' -> n += w.hit(Integer.parseInt(rest.split("\\.")[0]), Integer.parseInt(rest.split("\\.")[1]));
                case 'o' -> w.letGo(Integer.parseInt(rest));
                case 'p' -> w.pedal();
                default -> w.pass(Integer.parseInt(rest));
            }
        }
        pad.setLength(0);
        return n;
    }

    int zoneOf(int zone, int what) {
        if (!in(zone, 0, w.zones.size() - 1) || !in(what, 0, 8)) {
            return BAD;
        }
        Zone z = w.zones.get(zone);
        switch (what) {
            case 0: return z.low;
            case 1: return z.high;
            case 2: return z.soft;
            case 3: return z.hard;
            case 4: return z.group;
            case 5: return z.robin;
            case 6: return z.length;
            case 7: return (int) w.voices.stream().filter(v -> v.zone == z).count();
            default:
                for (int k = 0; k < 36; k++) {
                    for (int f = 1; f < 10; f++) {
                        if (w.chosen(k, f).contains(z)) {
                            return 1;
                        }
                    }
                }
                return 0;
        }
    }

    int voice(int voice, int what) {
        if (!in(voice, 0, w.voices.size() - 1) || !in(what, 0, 6)) {
            return BAD;
        }
        Voice v = w.voices.get(voice);
        switch (what) {
            case 0: return w.zones.indexOf(v.zone);
            case 1: return v.key;
            case 2: return v.force;
            case 3: return v.loud;
            case 4: return v.age;
            case 5: return v.hold;
            default:
                World t = w.copy();
                Voice mine = t.voices.get(voice);
                int place = 0;
                while (t.victim() != mine) {
                    t.steal();
                    place++;
                }
                return place;
        }
    }

    int answers(int key, int force) {
        if (!in(key, 0, 35) || !in(force, 1, 9)) {
            return BAD;
        }
        return (int) w.zones.stream().filter(z -> z.hears(key, force)).count();
    }

    int map(int what, int way) {
        if (!in(what, 0, 3) || !in(way, 0, 1)) {
            return BAD;
        }
        int holes = 0;
        int many = 0;
        int most = 0;
        int first = NONE;
        for (int key = 35; key >= 0; key--) {
            for (int force = 1; force <= 9; force++) {
                int n = answers(key, force);
                holes += n == 0 ? 1 : 0;
                many += n > 1 ? 1 : 0;
                most = Math.max(most, n);
                first = n == 0 ? key : first;
            }
        }
        return new int[] {holes, many, most, first}[what];
    }

    int count(int what) {
        if (!in(what, 0, 21)) {
            return BAD;
        }
        int[] holds = new int[3];
        int loud = 0;
        for (Voice v : w.voices) {
            holds[v.hold]++;
            loud += v.loud;
        }
        return new int[] {
            w.zones.size(), w.voices.size(), holds[0], holds[1], holds[2], loud, w.down ? 1 : 0, w.ticks, w.began,
            w.ended, w.choked, w.stolen, w.stopped, w.settings[0], w.settings[1], w.settings[2], w.turns[1],
            w.turns[2], w.turns[3], w.turns[4], pad.length(), past.size()}[what];
    }

    double loudness() {
        return w.voices.isEmpty() ? 0.0 : (double) count(5) / w.voices.size();
    }

    int ifHit(int key, int force, int what) {
        if (!in(key, 0, 35) || !in(force, 1, 9) || !in(what, 0, 4)) {
            return BAD;
        }
        World t = w.copy();
        int begun = t.hit(key, force);
        List<Zone> list = w.chosen(key, force);
        int first = list.isEmpty() ? NONE : w.zones.indexOf(list.get(0));
        return new int[] {begun, t.choked - w.choked, t.stolen - w.stolen, first, t.voices.size()}[what];
    }

    int silentIn() {
        World t = w.copy();
        int n = 0;
        while (!t.voices.isEmpty()) {
            t.tick();
            n++;
        }
        return n;
    }

    int chord(int keys, int octave, int force) {
        if (!in(keys, 1, 63) || !in(octave, 0, 5) || !in(force, 1, 9)) {
            return BAD;
        }
        World t = w.copy();
        for (int k = 0; k < 6; k++) {
            if ((keys & (1 << k)) != 0) {
                t.hit(6 * octave + k, force);
            }
        }
        return t.began - w.began;
    }

    int undo() {
        if (past.isEmpty()) {
            return NOT_NOW;
        }
        w = past.removeLast();
        return past.size();
    }

    int save() {
        snap = w.copy();
        return w.voices.size();
    }

    int restore() {
        if (snap == null) {
            return NOT_NOW;
        }
        change();
        w = snap.copy();
        return w.voices.size();
    }

    /** Calls by number, so that one run can be made on both sides. */
    static final String[] CALLS = {
        "zone", "like", "takeZone", "hit", "letGo", "pedal", "pass", "silence", "set", "append", "clear", "fault",
        "load", "play", "zoneOf", "voice", "answers", "map", "count", "loudness", "ifHit", "silentIn", "chord", "undo",
        "save", "restore"};

    double call(String name, int[] a) {
        switch (name) {
            case "zone": return zone(a[0], a[1], a[2], a[3]);
            case "like": return like(a[0], a[1], a[2], a[3]);
            case "takeZone": return takeZone(a[0]);
            case "hit": return hit(a[0], a[1]);
            case "letGo": return letGo(a[0]);
            case "pedal": return pedal();
            case "pass": return pass(a[0]);
            case "silence": return silence();
            case "set": return set(a[0], a[1]);
            case "append": return append(a[0]);
            case "clear": return clear();
            case "fault": return fault(a[0]);
            case "load": return load();
            case "play": return play();
            case "zoneOf": return zoneOf(a[0], a[1]);
            case "voice": return voice(a[0], a[1]);
            case "answers": return answers(a[0], a[1]);
            case "map": return map(a[0], a[1]);
            case "count": return count(a[0]);
            case "loudness": return loudness();
            case "ifHit": return ifHit(a[0], a[1], a[2]);
            case "silentIn": return silentIn();
            case "chord": return chord(a[0], a[1], a[2]);
            case "undo": return undo();
            case "save": return save();
            case "restore": return restore();
            default: throw new IllegalArgumentException(name + Arrays.toString(a));
        }
    }

    static double call(ZoneSampler x, String name, int[] a) {
        switch (name) {
            case "zone": return x.zone(a[0], a[1], a[2], a[3]);
            case "like": return x.like(a[0], a[1], a[2], a[3]);
            case "takeZone": return x.takeZone(a[0]);
            case "hit": return x.hit(a[0], a[1]);
            case "letGo": return x.letGo(a[0]);
            case "pedal": return x.pedal();
            case "pass": return x.pass(a[0]);
            case "silence": return x.silence();
            case "set": return x.set(a[0], a[1]);
            case "append": return x.append(a[0]);
            case "clear": return x.clear();
            case "fault": return x.fault(a[0]);
            case "load": return x.load();
            case "play": return x.play();
            case "zoneOf": return x.zoneOf(a[0], a[1]);
            case "voice": return x.voice(a[0], a[1]);
            case "answers": return x.answers(a[0], a[1]);
            case "map": return x.map(a[0], a[1]);
            case "count": return x.count(a[0]);
            case "loudness": return x.loudness();
            case "ifHit": return x.ifHit(a[0], a[1], a[2]);
            case "silentIn": return x.silentIn();
            case "chord": return x.chord(a[0], a[1], a[2]);
            case "undo": return x.undo();
            case "save": return x.save();
            case "restore": return x.restore();
            default: throw new IllegalArgumentException(name + Arrays.toString(a));
        }
    }
}
