import java.util.function.IntSupplier;

/**
 * The least and the greatest value of each argument of each call, all between them, and those just beyond them. A value
 * beyond is refused with INVALID_ARGUMENT and leaves everything as it was.
 */
final class ArgumentEdgesTest extends Edges {
    interface CallWith {
        int on(ZoneSampler s, int value);
    }

    interface Due {
        int of(int value);
    }

    private static final Setup NEW = s -> { };

    /** From least to most the call answers as due; beyond them it is refused. */
    private void range(String what, Setup before, int least, int most, CallWith call, Due due) {
        for (int value = least; value <= most; value++) {
            ZoneSampler s = new ZoneSampler();
            before.on(s);
            due(what + " " + value, call.on(s, value), due.of(value));
        }
        beyond(what, before, least, most, call);
    }

    private void beyond(String what, Setup before, int least, int most, CallWith call) {
        int[] wrong = {least - 1, most + 1, Integer.MIN_VALUE, Integer.MAX_VALUE, least - 256, most + 65536};
        for (int value : wrong) {
            refused(what + " " + value, before, s -> call.on(s, value), BAD);
        }
    }

    /** A right answer, times so much, and what is seen behind it; an error alone. */
    private static int seen(int answer, int times, IntSupplier behind) {
        return answer < 0 ? answer : times * answer + behind.getAsInt();
    }

    private void zone() {
        sentence("zone: low: 0 to 35: its lowest key");
        range("low", NEW, 0, 35, (s, v) -> seen(s.zone(v, 35, 1, 9), 1, () -> s.zoneOf(0, 0)), v -> v);
        beyond("low", Edges::busyScore, 0, 35, (s, v) -> s.zone(v, 35, 1, 9));
        sentence("zone: high: low to 35: its highest key");
        range("high above 0", NEW, 0, 35, (s, v) -> seen(s.zone(0, v, 1, 9), 1, () -> s.zoneOf(0, 1)), v -> v);
        range("high above 20", NEW, 20, 35, (s, v) -> s.zone(20, v, 1, 9), v -> 0);
        range("high above 35", NEW, 35, 35, (s, v) -> s.zone(35, v, 1, 9), v -> 0);
        range("low below 7", NEW, 0, 7, (s, v) -> s.zone(v, 7, 1, 9), v -> 0);
        beyond("high", Edges::busyZones, 10, 35, (s, v) -> s.zone(10, v, 1, 9));
        sentence("zone: softest: 1 to 9: its least force");
        range("softest", NEW, 1, 9, (s, v) -> seen(s.zone(0, 5, v, 9), 1, () -> s.zoneOf(0, 2)), v -> v);
        beyond("softest", Edges::busyScore, 1, 9, (s, v) -> s.zone(0, 5, v, 9));
        sentence("zone: hardest: softest to 9: its greatest force");
        range("hardest above 1", NEW, 1, 9, (s, v) -> seen(s.zone(0, 5, 1, v), 1, () -> s.zoneOf(0, 3)), v -> v);
        range("hardest above 5", NEW, 5, 9, (s, v) -> s.zone(0, 5, 5, v), v -> 0);
        range("hardest above 9", NEW, 9, 9, (s, v) -> s.zone(0, 5, 9, v), v -> 0);
        range("softest below 4", NEW, 1, 4, (s, v) -> s.zone(0, 5, v, 4), v -> 0);
        beyond("hardest", Edges::busyScore, 3, 9, (s, v) -> s.zone(0, 5, 3, v));
    }

    private void like() {
        sentence("like: zone: its number");
        range("of one zone", s -> wide(s, 1), 0, 0, (s, v) -> seen(s.like(v, 3, 4, 5), 1, () -> s.zoneOf(v, 6)), v -> 6);
        range("of ten zones", s -> wide(s, 10), 0, 9, (s, v) -> seen(s.like(v, 3, 4, 5), 1, () -> s.zoneOf(v, 6)), v -> 6);
        refused("of no zone", NEW, s -> s.like(0, 0, 0, 1), BAD);
        beyond("zone", Edges::busyScore, 0, 2, (s, v) -> s.like(v, 1, 1, 1));
        sentence("like: group: 0 to 3");
        range("group", s -> wide(s, 2), 0, 3, (s, v) -> seen(s.like(1, v, 0, 60), 10, () -> s.zoneOf(1, 4)), v -> v > 0 ? 10 + v : 0);
        beyond("group", Edges::busyScore, 0, 3, (s, v) -> s.like(0, v, 1, 1));
        sentence("like: robin: 0 to 4");
        range("robin", s -> wide(s, 2), 0, 4, (s, v) -> seen(s.like(1, 0, v, 60), 1, () -> s.zoneOf(1, 5)), v -> v);
        beyond("robin", Edges::busyScore, 0, 4, (s, v) -> s.like(0, 1, v, 1));
        sentence("like: length: 1 to 60");
        range("length", s -> wide(s, 2), 1, 60, (s, v) -> seen(s.like(1, 0, 0, v), 1, () -> s.zoneOf(1, 6)), v -> v);
        beyond("length", Edges::busyScore, 1, 60, (s, v) -> s.like(0, 1, 1, v));
    }

    private void takeZone() {
        sentence("takeZone: zone: its number");
        range("of one zone", s -> wide(s, 1), 0, 0, (s, v) -> seen(s.takeZone(v), 1, () -> s.count(ZONES)), v -> 0);
        range("of ten zones", s -> wide(s, 10), 0, 9, (s, v) -> seen(s.takeZone(v), 1, () -> s.count(ZONES)), v -> 9);
        refused("of no zone", NEW, s -> s.takeZone(0), BAD);
        beyond("zone", Edges::busyScore, 0, 2, ZoneSampler::takeZone);
    }

    private void notes() {
        sentence("hit: key: 0 to 35");
        range("key", s -> wide(s, 1), 0, 35, (s, v) -> seen(s.hit(v, 5), 100, () -> s.voice(0, 1)), v -> 100 + v);
        beyond("key", Edges::busyScore, 0, 35, (s, v) -> s.hit(v, 5));
        sentence("hit: force: 1 to 9");
        range("force", s -> wide(s, 1), 1, 9, (s, v) -> seen(s.hit(5, v), 100, () -> s.voice(0, 2)), v -> 100 + v);
        beyond("force", Edges::busyScore, 1, 9, (s, v) -> s.hit(5, v));
        sentence("letGo: key: 0 to 35");
        range("key", s -> keysDown(s), 0, 35, ZoneSampler::letGo, v -> v == 0 || v == 35 ? 1 : 0);
        beyond("key", Edges::busyScore, 0, 35, ZoneSampler::letGo);
        sentence("pass: ticks: 1 to 99");
        range("ticks", s -> wide(s, 1), 1, 99, (s, v) -> seen(s.pass(v), 1, () -> s.count(TICKS)), v -> v);
        beyond("ticks", Edges::busyScore, 1, 99, ZoneSampler::pass);
    }

    private static void keysDown(ZoneSampler s) {
        wide(s, 1);
        s.hit(0, 5);
        s.hit(35, 5);
    }

    private void set() {
        sentence("set: what: 0 to 2");
        range("what", NEW, 0, 2, (s, v) -> s.set(v, 1), v -> v == 0 ? 6 : v == 1 ? 0 : 10);
        beyond("what", Edges::busyScore, 0, 2, (s, v) -> s.set(v, 1));
        sentence("VOICES (1 to 8; 6)");
        range("VOICES", NEW, 1, 8, (s, v) -> seen(s.set(VOICES, v), 10, () -> s.count(SETTINGS)), v -> 60 + v);
        beyond("VOICES", Edges::busyScore, 1, 8, (s, v) -> s.set(VOICES, v));
        sentence("STEAL (0 to 2; 0)");
        range("STEAL", NEW, 0, 2, (s, v) -> seen(s.set(STEAL, v), 10, () -> s.count(SETTINGS + 1)), v -> v);
        beyond("STEAL", Edges::busyScore, 0, 2, (s, v) -> s.set(STEAL, v));
        sentence("FADE (1 to 50; 10)");
        range("FADE", NEW, 1, 50, (s, v) -> seen(s.set(FADE, v), 100, () -> s.count(SETTINGS + 2)), v -> 1000 + v);
        beyond("FADE", Edges::busyScore, 1, 50, (s, v) -> s.set(FADE, v));
    }

    private void texts() {
        sentence("append: code: the character code, 33 to 126");
        range("code", NEW, 33, 126, ZoneSampler::append, v -> 1);
        beyond("code", Edges::busyScore, 33, 126, ZoneSampler::append);
        beyond("code", Edges::busyZones, 33, 126, ZoneSampler::append);
        sentence("fault: way: 0 if it is read as zones, 1 if it is read as a score");
        range("way", s -> write(s, "n1."), 0, 1, ZoneSampler::fault, v -> v == 0 ? 0 : 3);
        beyond("way", Edges::busyScore, 0, 1, ZoneSampler::fault);
    }

    private void looks() {
        sentence("zoneOf: zone: its number");
        range("of one zone", s -> wide(s, 1), 0, 0, (s, v) -> s.zoneOf(v, 1), v -> 35);
        range("of ten zones", s -> wide(s, 10), 0, 9, (s, v) -> s.zoneOf(v, 1), v -> 35);
        refused("of no zone", NEW, s -> s.zoneOf(0, 0), BAD);
        beyond("zone", Edges::busyScore, 0, 2, (s, v) -> s.zoneOf(v, 0));
        sentence("zoneOf: what: 0 to 8");
        int[] zone = {3, 9, 1, 5, 0, 0, 60, 3, 1};
        range("what", Edges::busyScore, 0, 8, (s, v) -> s.zoneOf(2, v), v -> zone[v]);
        sentence("voice: voice: from 0, in the order in which they began");
        range("of one voice", ArgumentEdgesTest::oneVoice, 0, 0, (s, v) -> s.voice(v, 1), v -> 7);
        range("of eight voices", ArgumentEdgesTest::eightVoices, 0, 7, (s, v) -> s.voice(v, 1), v -> v);
        refused("of no voice", s -> wide(s, 1), s -> s.voice(0, 0), BAD);
        sentence("voice: what: 0 to 6");
        int[] voice = {0, 7, 9, 90, 0, 0, 0};
        range("what", ArgumentEdgesTest::oneVoice, 0, 6, (s, v) -> s.voice(0, v), v -> voice[v]);
        sentence("answers: key: 0 to 35");
        range("key", s -> wide(s, 1), 0, 35, (s, v) -> s.answers(v, 1), v -> 1);
        sentence("answers: force: 1 to 9");
        range("force", s -> wide(s, 1), 1, 9, (s, v) -> s.answers(0, v), v -> 1);
        sentence("map: what: 0 to 3");
        int[] map = {324, 0, 0, 0};
        range("what, way 0", NEW, 0, 3, (s, v) -> s.map(v, 0), v -> map[v]);
        range("what, way 1", NEW, 0, 3, (s, v) -> s.map(v, 1), v -> map[v]);
        sentence("map: way: 0 or 1");
        range("way", NEW, 0, 1, (s, v) -> s.map(0, v), v -> 324);
        sentence("count: what: 0 to 21");
        int[] count = {2, 1, 1, 0, 0, 90, 0, 0, 1, 0, 0, 0, 0, 6, 0, 10, 0, 0, 0, 0, 0, 3};
        range("what", ArgumentEdgesTest::oneVoice, 0, 21, ZoneSampler::count, v -> count[v]);
    }

    private static void oneVoice(ZoneSampler s) {
        s.zone(7, 7, 1, 9);
        s.zone(8, 35, 1, 9);
        s.hit(7, 9);
    }

    private static void eightVoices(ZoneSampler s) {
        wide(s, 1);
        s.set(VOICES, 8);
        for (int key = 0; key < 8; key++) {
            s.hit(key, 9);
        }
    }

    private void whatWouldBe() {
        sentence("ifHit: key: 0 to 35");
        range("key", s -> wide(s, 1), 0, 35, (s, v) -> s.ifHit(v, 1, 0), v -> 1);
        sentence("ifHit: force: 1 to 9");
        range("force", s -> wide(s, 1), 1, 9, (s, v) -> s.ifHit(0, v, 0), v -> 1);
        sentence("ifHit: what: 0 to 4");
        int[] due = {1, 0, 0, 1, 2};
        range("what", ArgumentEdgesTest::oneVoice, 0, 4, (s, v) -> s.ifHit(8, 1, v), v -> due[v]);
        sentence("chord: keys: 1 to 63");
        range("keys", s -> wide(s, 1), 1, 63, (s, v) -> s.chord(v, 0, 1), Integer::bitCount);
        sentence("chord: octave: 0 to 5");
        range("octave", s -> wide(s, 1), 0, 5, (s, v) -> s.chord(33, v, 1), v -> 2);
        sentence("chord: force: 1 to 9");
        range("force", s -> wide(s, 1), 1, 9, (s, v) -> s.chord(1, 0, v), v -> 1);
    }

    @Override
    void tests() {
        zone();
        like();
        takeZone();
        notes();
        set();
        texts();
        looks();
        whatWouldBe();
    }

    public static void main(String[] args) {
        new ArgumentEdgesTest().run();
    }
}
