import java.util.Arrays;

/** Long runs of calls on ZoneSampler and on the Model, with the same answers due; no call may throw. */
final class ModelTest {
    private static final int RUNS = 2000;
    private static final int CALLS = 512;

    private long seed;
    private int calls;
    private final Check check;

    private ModelTest(long seed, Check check) {
        this.seed = seed * 7919 + 12345;
        this.check = check;
    }

    /** A number from 0 to below n, always the same ones for the same seed. */
    private int any(int n) {
        seed = seed * 6364136223846793005L + 1442695040888963407L;
        return (int) ((seed >>> 33) % n);
    }

    private int from(int least, int most) {
        return most > least && most - least < 1000 ? least + any(most - least + 1) : least;
    }

    /** A value of the range, now and then one at or past its edges. */
    private int near(int least, int most) {
        switch (any(24)) {
            case 0: return least - 1;
            case 1: return most + 1;
            case 2: return least;
            case 3: return most;
            default: return any(300) == 0 ? far() : from(least, most);
        }
    }

    private int far() {
        int[] values = {Integer.MIN_VALUE, Integer.MAX_VALUE, -2, 1 << 30, -(1 << 30), 1000};
        return values[any(values.length)];
    }

    private int[] arguments(String name, Model m, int span) {
        int zones = m.w.zones.size() - 1;
        int voices = m.w.voices.size() - 1;
        int key = near(0, span);
        switch (name) {
            case "zone": {
                int low = near(0, 35);
                int soft = near(1, 9);
                if (any(3) > 0) {
                    return new int[] {any(5), from(span / 2, 35), from(1, 4), from(4, 9)};
                }
                return new int[] {low, near(low, 35), soft, near(soft, 9)};
            }
            case "like": return new int[] {near(0, zones), near(0, 3), near(0, 4), any(2) == 0 ? near(1, 60) : 60};
            case "takeZone": return new int[] {near(0, zones)};
            case "hit":
            case "answers": return new int[] {key, near(1, 9)};
            case "letGo": return new int[] {key};
            case "pass": return new int[] {any(4) > 0 ? near(1, 9) : near(1, 99)};
            case "set": {
                int what = near(0, 2);
                return new int[] {what, what == 0 ? near(1, 8) : what == 1 ? near(0, 2) : near(1, 50)};
            }
            case "append": return new int[] {near(33, 126)};
            case "fault": return new int[] {near(0, 1)};
            case "zoneOf": return new int[] {near(0, zones), near(0, 8)};
            case "voice": return new int[] {near(0, voices), near(0, 6)};
            case "map": return new int[] {near(0, 3), near(0, 1)};
            case "count": return new int[] {near(0, 21)};
            case "ifHit": return new int[] {key, near(1, 9), near(0, 4)};
            case "chord": return new int[] {near(1, 63), near(0, 5), near(1, 9)};
            default: return new int[0];
        }
    }

    private String zoneText() {
        int low = any(36);
        int soft = from(1, 9);
        StringBuilder sb = new StringBuilder();
        sb.append(low).append('-').append(any(12) == 0 ? any(37) : from(low, 35)).append(',');
        sb.append(soft).append('-').append(any(12) == 0 ? any(10) : from(soft, 9)).append(',').append(from(1, 61));
        sb.append(any(2) == 0 ? "g" + from(1, 3) : "").append(any(2) == 0 ? "r" + from(1, 4) : "");
        return sb.toString();
    }

    private String deedText(int span) {
        switch (any(4)) {
            case 0: return "o" + any(span + 1);
            case 1: return "p";
            case 2: return "t" + (any(5) > 0 ? from(1, 9) : from(1, 99));
            default: return "n" + any(span + 1) + "." + from(1, 9);
        }
    }

    /** A text that is right more often than not; a few have a wrong or a missing character. */
    private String text(int span) {
        StringBuilder sb = new StringBuilder();
        int parts = any(3) == 0 ? from(1, 12) : from(1, 3);
        boolean zones = any(2) == 0;
        for (int i = 0; i < parts; i++) {
            sb.append(i > 0 ? ";" : "").append(zones ? zoneText() : deedText(span));
        }
        if (any(3) == 0) {
            String signs = "0123456789-,;.nopstgr";
            sb.setCharAt(any(sb.length()), signs.charAt(any(signs.length())));
        }
        if (any(8) == 0) {
            sb.deleteCharAt(any(sb.length()));
        }
        if (sb.length() > 60) {
            sb.setLength(60);
        }
        return sb.toString();
    }

    private boolean same(ZoneSampler x, Model m, String name, int[] args) {
        calls++;
        double due = m.call(name, args);
        double got;
        try {
            got = Model.call(x, name, args);
        } catch (RuntimeException e) {
            check.yes(name + Arrays.toString(args) + " threw " + e, false);
            return false;
        }
        check.same(name + Arrays.toString(args), got, due);
        return got == due;
    }

    private boolean sameEverywhere(ZoneSampler x, Model m) {
        boolean good = true;
        for (int what = 0; what <= 21; what++) {
            good &= same(x, m, "count", new int[] {what});
        }
        for (int voice = 0; voice < m.w.voices.size(); voice++) {
            for (int what = 0; what <= 6; what++) {
                good &= same(x, m, "voice", new int[] {voice, what});
            }
        }
        for (int zone = 0; zone < m.w.zones.size(); zone++) {
            for (int what = 0; what <= 8; what++) {
                good &= same(x, m, "zoneOf", new int[] {zone, what});
            }
        }
        return good && same(x, m, "silentIn", new int[0]) && same(x, m, "loudness", new int[0]);
    }

    private String nextCall() {
        switch (any(10)) {
            case 0: case 1: case 2: case 3: return "hit";
            case 4: return "pass";
            default: break;
        }
        String name = Model.CALLS[any(Model.CALLS.length)];
        boolean rare = name.equals("silence") || name.equals("takeZone") || name.equals("clear");
        return rare && any(3) > 0 ? "letGo" : name;
    }

    private void run() {
        ZoneSampler x = new ZoneSampler();
        Model m = new Model();
        int span = any(3) == 0 ? 35 : from(2, 12);
        boolean good = true;
        while (good && calls < CALLS) {
            if (calls + 120 < CALLS && any(12) == 0) {
                good = same(x, m, "clear", new int[0]);
                String text = text(span);
                for (int i = 0; good && i < text.length(); i++) {
                    good = same(x, m, "append", new int[] {text.charAt(i)});
                }
                good = good && same(x, m, "fault", new int[] {0}) && same(x, m, "fault", new int[] {1});
                good = good && same(x, m, any(2) == 0 ? "load" : "play", new int[0]);
            } else {
                String name = calls < 12 && any(2) == 0 ? (any(2) == 0 ? "zone" : "like") : nextCall();
                good = same(x, m, name, arguments(name, m, span));
            }
            if (calls + 200 < CALLS && any(40) == 0) {
                good = good && sameEverywhere(x, m);
            }
        }
    }

    public static void main(String[] args) {
        Check check = new Check();
        for (int run = 0; run < RUNS && !check.failed(); run++) {
            check.about("run " + run);
            new ModelTest(run, check).run();
        }
        check.end();
    }
}
