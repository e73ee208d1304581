/**
 * What the tests of the document's boundary sentences share: a new sampler for each sentence, and a way to see whether
 * a call has left anything behind, the pad, the history and the snapshot too.
 */
abstract class Edges {
    interface Setup {
        void on(ZoneSampler s);
    }

    interface Call {
        int on(ZoneSampler s);
    }

    static final int BAD = ZoneSampler.INVALID_ARGUMENT;
    static final int NOT_NOW = ZoneSampler.NOT_POSSIBLE;
    static final int FULL = ZoneSampler.LIMIT_REACHED;
    static final int NONE = ZoneSampler.NOT_FOUND;
    static final int VOICES = ZoneSampler.VOICES, STEAL = ZoneSampler.STEAL, FADE = ZoneSampler.FADE;

    static final int ZONES = 0, SOUNDING = 1, HELD = 2, HUNG = 3, FREE = 4, LOUD = 5, PEDAL = 6, TICKS = 7;
    static final int BEGAN = 8, ENDED = 9, CHOKED = 10, STOLEN = 11, STOPPED = 12, SETTINGS = 13, TURNS = 16;
    static final int PAD = 20, STATES = 21;

    private static final int PROBES = 12;

    final Check check = new Check();
    ZoneSampler x = new ZoneSampler();

    /** What follows tests these words of the document, on a new sampler. */
    void sentence(String words) {
        check.about(words);
        x = new ZoneSampler();
    }

    /** Another new sampler for the same sentence. */
    void anew() {
        x = new ZoneSampler();
    }

    void due(String what, int got, int due) {
        check.same(what, got, due);
    }

    void counted(int what, int due) {
        due("count(" + what + ")", x.count(what), due);
    }

    void voiceIs(int voice, int what, int due) {
        due("voice(" + voice + ", " + what + ")", x.voice(voice, what), due);
    }

    /** A property of all voices, in their order; no other voice sounds. */
    void voicesAre(int what, int... due) {
        counted(SOUNDING, due.length);
        for (int voice = 0; voice < due.length; voice++) {
            voiceIs(voice, what, due[voice]);
        }
    }

    void wideZones(int zones) {
        wide(x, zones);
    }

    static void wide(ZoneSampler s, int zones) {
        for (int i = 0; i < zones; i++) {
            s.zone(0, 35, 1, 9);
        }
    }

    void pad(String text) {
        write(x, text);
    }

    static void write(ZoneSampler s, String text) {
        s.clear();
        for (int i = 0; i < text.length(); i++) {
            s.append(text.charAt(i));
        }
    }

    static String times(String part, int times) {
        return part.repeat(times);
    }

    /** What the snapshot and the states of the history keep, as far as it can be seen. */
    static String heart(ZoneSampler s) {
        StringBuilder sb = new StringBuilder();
        for (int what = ZONES; what < PAD; what++) {
            sb.append(s.count(what)).append(' ');
        }
        for (int zone = 0; zone < s.count(ZONES); zone++) {
            sb.append("| ");
            for (int what = 0; what <= 8; what++) {
                sb.append(s.zoneOf(zone, what)).append(' ');
            }
        }
        for (int voice = 0; voice < s.count(SOUNDING); voice++) {
            sb.append("* ");
            for (int what = 0; what <= 6; what++) {
                sb.append(s.voice(voice, what)).append(' ');
            }
        }
        return sb.append(s.loudness()).append(' ').append(s.silentIn()).toString();
    }

    /** Everything that can be seen without changing anything. */
    static String look(ZoneSampler s) {
        StringBuilder sb = new StringBuilder(heart(s));
        sb.append(' ').append(s.count(PAD)).append(' ').append(s.count(STATES));
        return sb.append(' ').append(s.fault(0)).append(' ').append(s.fault(1)).toString();
    }

    /** One of several ways to bring to light what a sampler keeps; each begins with a sampler of its own. */
    private static String probe(ZoneSampler s, int way) {
        int answer = 0;
        switch (way) {
            case 0:
                break;
            case 1:
                answer = s.play();
                break;
            case 2:
                answer = s.load();
                break;
            case 3:
                answer = s.takeZone(0) + 10 * s.load();
                break;
            case 4:
                answer = s.append('9') + 100 * s.play();
                break;
            case 5:
                answer = s.restore();
                break;
            case 6:
                answer = s.hit(0, 9) + 10 * s.ifHit(0, 9, 1);
                break;
            default:
                for (int i = 6; i < way; i++) {
                    answer = 10 * answer + s.undo();
                }
                break;
        }
        return answer + ": " + look(s);
    }

    /** The call leaves everything as it was: two samplers with the same past, but for this call, go on alike. */
    void leavesAll(String what, Setup before, Call call) {
        for (int way = 0; way < PROBES; way++) {
            ZoneSampler with = new ZoneSampler();
            ZoneSampler without = new ZoneSampler();
            before.on(with);
            before.on(without);
            call.on(with);
            check.same(what + " leaves all, seen in way " + way, probe(with, way), probe(without, way));
        }
    }

    /** The call answers with this error and leaves everything as it was. */
    void refused(String what, Setup before, Call call, int error) {
        ZoneSampler s = new ZoneSampler();
        before.on(s);
        due(what, call.on(s), error);
        due(what + ", once more", call.on(s), error);
        leavesAll(what, before, call);
    }

    /** A sampler with something of everything: zones, voices of each kind, turns, four states, a snapshot and a pad. */
    static void busy(ZoneSampler s, String text) {
        s.zone(0, 20, 1, 9);
        s.zone(0, 35, 2, 8);
        s.zone(3, 9, 1, 5);
        s.like(0, 1, 2, 50);
        s.like(1, 0, 2, 60);
        s.set(FADE, 3);
        s.hit(1, 7);
        s.save();
        s.pedal();
        s.hit(2, 8);
        s.hit(4, 4);
        s.hit(5, 5);
        s.letGo(5);
        s.hit(4, 3);
        s.pass(2);
        s.set(STEAL, 2);
        write(s, text);
    }

    /** The pad is a right score. */
    static void busyScore(ZoneSampler s) {
        busy(s, "n3.7;t2;o3");
    }

    /** The pad holds two right zones. */
    static void busyZones(ZoneSampler s) {
        busy(s, "1-2,3-4,5g1;6-7,8-9,10r2");
    }

    abstract void tests();

    void run() {
        tests();
        check.end();
    }
}
