/** The boundary sentences of the document on stolen voices, on what is told of voices, and on what would be. */
final class StealEdgesTest extends Edges {
    private void stolenPlaces(int... due) {
        counted(SOUNDING, due.length);
        for (int voice = 0; voice < due.length; voice++) {
            voiceIs(voice, 6, due[voice]);
        }
    }

    private void oldest() {
        sentence("STEAL 0: the oldest one: of the greatest age; of several the one that began first");
        wideZones(1);
        x.set(VOICES, 3);
        x.hit(0, 9);
        x.hit(1, 1);
        x.pass(1);
        x.hit(2, 5);
        stolenPlaces(0, 1, 2);
        x.hit(3, 5);
        voicesAre(1, 1, 2, 3);
        x.hit(4, 5);
        voicesAre(1, 2, 3, 4);
        x.letGo(4);
        x.hit(5, 1);
        voicesAre(1, 3, 4, 5);
    }

    private void leastLoud() {
        sentence("STEAL 1: the one with the least loudness; of several the one that began first");
        wideZones(1);
        x.set(VOICES, 4);
        x.set(STEAL, 1);
        x.hit(0, 3);
        x.hit(1, 2);
        x.pass(10);
        x.hit(2, 2);
        x.hit(3, 1);
        voicesAre(3, 20, 10, 20, 10);
        stolenPlaces(2, 0, 3, 1);
        x.hit(4, 2);
        voicesAre(1, 0, 2, 3, 4);
        x.hit(5, 2);
        voicesAre(1, 0, 2, 4, 5);
        x.hit(6, 1);
        voicesAre(1, 2, 4, 5, 6);
        x.hit(7, 9);
        voicesAre(1, 2, 4, 5, 7);
    }

    private void letGoFirst() {
        sentence("STEAL 2: one that is let go, if there is any, otherwise one that is hung, otherwise one that is held");
        wideZones(1);
        x.set(VOICES, 6);
        x.set(STEAL, 2);
        for (int key = 0; key < 6; key++) {
            x.hit(key, 9);
        }
        stolenPlaces(0, 1, 2, 3, 4, 5);
        x.letGo(4);
        x.letGo(1);
        x.pedal();
        x.letGo(5);
        x.letGo(2);
        voicesAre(5, 0, 2, 1, 0, 2, 1);
        stolenPlaces(4, 0, 2, 5, 1, 3);
        x.set(VOICES, 5);
        voicesAre(1, 0, 2, 3, 4, 5);
        x.set(VOICES, 4);
        voicesAre(1, 0, 2, 3, 5);
        x.set(VOICES, 3);
        voicesAre(1, 0, 3, 5);
        x.set(VOICES, 2);
        voicesAre(1, 0, 3);
        x.set(VOICES, 1);
        voicesAre(1, 3);
        counted(STOLEN, 5);
    }

    private void placesOfEight() {
        sentence("voice 6: its place in the order in which voices would be stolen now, from 0");
        wideZones(1);
        x.set(VOICES, 8);
        x.hit(0, 5);
        stolenPlaces(0);
        for (int key = 1; key < 8; key++) {
            x.hit(key, 9 - key);
        }
        stolenPlaces(0, 1, 2, 3, 4, 5, 6, 7);
        x.set(STEAL, 1);
        voicesAre(2, 5, 8, 7, 6, 5, 4, 3, 2);
        stolenPlaces(3, 7, 6, 5, 4, 2, 1, 0);
        x.set(STEAL, 2);
        stolenPlaces(0, 1, 2, 3, 4, 5, 6, 7);
        x.letGo(7);
        stolenPlaces(1, 2, 3, 4, 5, 6, 7, 0);
        x.set(STEAL, 0);
        stolenPlaces(0, 1, 2, 3, 4, 5, 6, 7);
    }

    private void placesAreTheOrder() {
        sentence("voice 6: the order in which voices would be stolen now: as they are stolen then, by each rule");
        for (int rule = 0; rule <= 2; rule++) {
            for (int left = 7; left >= 1; left--) {
                anew();
                mixed(rule);
                int kept = 0;
                int[] keys = new int[left];
                for (int voice = 0; voice < 8; voice++) {
                    if (x.voice(voice, 6) >= 8 - left && kept < left) {
                        keys[kept++] = x.voice(voice, 1);
                    }
                }
                x.set(VOICES, left);
                voicesAre(1, keys);
            }
        }
    }

    private void mixed(int rule) {
        wideZones(1);
        x.set(VOICES, 8);
        x.set(STEAL, rule);
        int[] forces = {9, 2, 5, 5, 2, 8, 3, 9};
        for (int key = 0; key < 8; key++) {
            x.hit(key, forces[key]);
            if (key % 3 == 1) {
                x.pass(1);
            }
        }
        x.letGo(3);
        x.letGo(6);
        x.pedal();
        x.letGo(2);
        x.letGo(7);
    }

    private void ownNote() {
        sentence("(Voices of the same note can be stolen, too.)");
        for (int rule = 0; rule <= 2; rule++) {
            anew();
            wideZones(10);
            x.set(STEAL, rule);
            due("hit", x.hit(0, 5), 10);
            voicesAre(0, 4, 5, 6, 7, 8, 9);
            counted(STOLEN, 4);
            x.set(VOICES, 1);
            due("hit", x.hit(1, 5), 10);
            voicesAre(0, 9);
            counted(STOLEN, 9 + 10);
        }
        anew();
        wideZones(3);
        x.set(VOICES, 3);
        x.set(STEAL, 1);
        x.hit(0, 9);
        x.hit(1, 1);
        voicesAre(1, 0, 0, 1);
        voicesAre(0, 1, 2, 2);
        counted(STOLEN, 3);
    }

    private void setVoices() {
        sentence("When VOICES is set, voices are stolen until there are not more.");
        wideZones(8);
        x.set(VOICES, 8);
        x.hit(0, 9);
        due("the same", x.set(VOICES, 8), 8);
        counted(SOUNDING, 8);
        due("one less", x.set(VOICES, 7), 8);
        voicesAre(0, 1, 2, 3, 4, 5, 6, 7);
        counted(STOLEN, 1);
        due("one", x.set(VOICES, 1), 7);
        voicesAre(0, 7);
        counted(STOLEN, 7);
        due("more", x.set(VOICES, 8), 1);
        voicesAre(0, 7);
        counted(STOLEN, 7);
        x.silence();
        x.set(VOICES, 1);
        counted(STOLEN, 7);
        anew();
        wideZones(5);
        x.hit(0, 9);
        x.set(VOICES, 5);
        counted(SOUNDING, 5);
        counted(STOLEN, 0);
        x.set(VOICES, 4);
        counted(STOLEN, 1);
    }

    private void setOthers() {
        sentence("When VOICES is set, voices are stolen: not when STEAL or FADE is set");
        wideZones(6);
        x.hit(0, 9);
        x.set(STEAL, 1);
        x.set(STEAL, 2);
        x.set(STEAL, 0);
        x.set(FADE, 1);
        x.set(FADE, 50);
        counted(SOUNDING, 6);
        counted(STOLEN, 0);
        voicesAre(3, 90, 90, 90, 90, 90, 90);
    }

    private void setReturns() {
        sentence("set: Returns the value before");
        due("VOICES", x.set(VOICES, 1), 6);
        due("STEAL", x.set(STEAL, 2), 0);
        due("FADE", x.set(FADE, 50), 10);
        due("VOICES", x.set(VOICES, 8), 1);
        due("STEAL", x.set(STEAL, 1), 2);
        due("FADE", x.set(FADE, 1), 50);
        counted(SETTINGS, 8);
        counted(SETTINGS + 1, 1);
        counted(SETTINGS + 2, 1);
    }

    private void counts() {
        sentence("count: the greatest numbers: zones, voices, loudness, pad, states");
        wideZones(10);
        x.set(VOICES, 8);
        x.hit(0, 9);
        pad(times("n", 60));
        counted(ZONES, 10);
        counted(SOUNDING, 8);
        counted(HELD, 8);
        counted(HUNG, 0);
        counted(FREE, 0);
        counted(LOUD, 720);
        counted(PEDAL, 0);
        counted(PAD, 60);
        counted(STATES, 4);
        x.pedal();
        x.letGo(0);
        counted(HELD, 0);
        counted(HUNG, 8);
        counted(FREE, 0);
        counted(PEDAL, 1);
        x.pedal();
        counted(HELD, 0);
        counted(HUNG, 0);
        counted(FREE, 8);
        counted(PEDAL, 0);
        for (int i = 0; i < 100; i++) {
            x.pass(99);
        }
        counted(TICKS, 9900);
        counted(ENDED, 8);
    }

    private void everyVoiceIsCounted() {
        sentence("count 8 to 12: voices that began; that ended; that were choked; stolen; stopped otherwise");
        wideZones(2);
        x.zone(9, 9, 1, 9);
        x.like(0, 1, 0, 60);
        x.set(VOICES, 2);
        x.hit(9, 9);
        x.hit(0, 1);
        x.pass(10);
        x.hit(1, 2);
        x.takeZone(0);
        x.silence();
        x.hit(9, 3);
        counted(BEGAN, 3 + 2 + 2 + 2);
        counted(ENDED, 2);
        counted(CHOKED, 0);
        counted(STOLEN, 1 + 2);
        counted(STOPPED, 1 + 1);
        counted(SOUNDING, 2);
        x.like(0, 3, 0, 60);
        x.hit(0, 9);
        counted(BEGAN, 10);
        counted(CHOKED, 1);
        counted(SOUNDING, 2);
    }

    private void loudness() {
        sentence("loudness: the loudness of all voices, as a double, divided by their number; 0.0 without any.");
        check.same("without any", x.loudness(), 0.0);
        wideZones(1);
        x.set(VOICES, 8);
        x.hit(0, 1);
        check.same("one", x.loudness(), 10.0);
        x.hit(1, 2);
        check.same("two", x.loudness(), 15.0);
        x.hit(2, 2);
        check.same("three", x.loudness(), 50.0 / 3);
        x.pass(1);
        for (int key = 3; key < 8; key++) {
            x.hit(key, 9);
        }
        check.same("eight", x.loudness(), 497.0 / 8);
        x.pass(9);
        check.same("seven", x.loudness(), (10 + 10 + 5 * 81) / 7.0);
        x.silence();
        check.same("without any again", x.loudness(), 0.0);
        x.hit(0, 1);
        x.pass(9);
        check.same("the least", x.loudness(), 1.0);
    }

    /** No voice sounds behind so many ticks, but one behind one tick less. */
    private void silentInIs(int ticks) {
        due("silentIn", x.silentIn(), ticks);
        if (ticks > 1) {
            x.pass(ticks - 1);
            due("one tick before", x.silentIn(), 1);
            check.yes("one sounds one tick before", x.count(SOUNDING) > 0);
            x.pass(1);
        } else if (ticks == 1) {
            x.pass(1);
        }
        counted(SOUNDING, 0);
        due("silent", x.silentIn(), 0);
    }

    private void oneVoice(int force, int fade, int length, int ticks, boolean up) {
        anew();
        wideZones(1);
        x.set(FADE, fade);
        x.hit(0, force);
        x.pass(ticks);
        x.like(0, 0, 0, length);
        if (up) {
            x.letGo(0);
        }
    }

    private void silentIn() {
        sentence("silentIn: Returns the least number of ticks, 0 or more, behind which no voice sounds.");
        silentInIs(0);
        wideZones(1);
        silentInIs(0);
        int[][] due = {
            {1, 10, 60, 9, 0, 1}, {1, 10, 60, 1, 0, 9}, {9, 10, 60, 1, 0, 59}, {9, 10, 60, 59, 0, 1},
            {9, 10, 2, 1, 0, 1}, {9, 10, 3, 1, 0, 2}, {9, 10, 5, 5, 0, 1}, {9, 10, 1, 40, 0, 1},
            {2, 10, 60, 10, 1, 1}, {2, 10, 60, 9, 1, 2}, {2, 10, 60, 11, 1, 1}, {9, 50, 60, 1, 1, 2},
            {5, 50, 60, 1, 1, 1}, {6, 50, 60, 10, 1, 1}, {6, 50, 60, 9, 1, 2}, {9, 1, 60, 1, 1, 59},
            {9, 10, 4, 1, 1, 3}, {9, 10, 60, 1, 1, 9}, {9, 7, 60, 6, 1, 12}, {9, 7, 60, 5, 1, 13}};
        for (int[] d : due) {
            oneVoice(d[0], d[1], d[2], d[3], d[4] == 1);
            silentInIs(d[5]);
        }
        anew();
        wideZones(8);
        x.set(VOICES, 8);
        for (int zone = 0; zone < 8; zone++) {
            x.like(zone, 0, 0, zone == 3 ? 31 : 30);
        }
        x.hit(0, 9);
        silentInIs(31);
        x.hit(0, 2);
        silentInIs(20);
        x.hit(0, 2);
        x.pedal();
        x.letGo(0);
        silentInIs(20);
    }

    /** What would be is told so, changes nothing, and is so when the note is hit. */
    private void ifHitIs(Setup before, int key, int force, int... due) {
        anew();
        before.on(x);
        String look = look(x);
        for (int what = 0; what <= 4; what++) {
            due("ifHit(" + key + ", " + force + ", " + what + ")", x.ifHit(key, force, what), due[what]);
        }
        check.same("nothing is changed", look(x), look);
        int[] counts = {x.count(BEGAN), x.count(CHOKED), x.count(STOLEN)};
        due("hit", x.hit(key, force), due[0]);
        counted(BEGAN, counts[0] + due[0]);
        counted(CHOKED, counts[1] + due[1]);
        counted(STOLEN, counts[2] + due[2]);
        counted(SOUNDING, due[4]);
    }

    private static void oneSmallZone(ZoneSampler s) {
        s.zone(1, 35, 2, 9);
    }

    /** Ten zones, nine of them everywhere, and six voices. */
    private static void tenZones(ZoneSampler s, int voices) {
        s.zone(1, 35, 2, 9);
        wide(s, 9);
        s.hit(0, 1);
        s.set(VOICES, voices);
    }

    private static void robinWithAGroup(ZoneSampler s, int hits) {
        s.zone(0, 35, 1, 9);
        s.zone(35, 35, 9, 9);
        s.like(0, 2, 3, 60);
        s.like(1, 2, 3, 60);
        for (int i = 0; i < hits; i++) {
            s.hit(35, 9);
        }
    }

    private static void eightToChoke(ZoneSampler s) {
        wide(s, 8);
        s.set(VOICES, 8);
        s.hit(0, 9);
        for (int zone = 0; zone < 8; zone++) {
            s.like(zone, 1, zone < 7 ? 1 : 0, 60);
        }
    }

    private void ifHit() {
        sentence("ifHit: how many voices would begin; be choked; be stolen; the first zone, NOT_FOUND without one; be behind it");
        ifHitIs(s -> { }, 0, 1, 0, 0, 0, NONE, 0);
        ifHitIs(StealEdgesTest::oneSmallZone, 0, 9, 0, 0, 0, NONE, 0);
        ifHitIs(StealEdgesTest::oneSmallZone, 1, 1, 0, 0, 0, NONE, 0);
        ifHitIs(StealEdgesTest::oneSmallZone, 1, 2, 1, 0, 0, 0, 1);
        ifHitIs(s -> wide(s, 10), 35, 9, 10, 0, 4, 0, 6);
        ifHitIs(s -> tenZones(s, 6), 0, 1, 9, 0, 9, 1, 6);
        ifHitIs(s -> tenZones(s, 6), 35, 9, 10, 0, 10, 0, 6);
        ifHitIs(s -> tenZones(s, 8), 35, 9, 10, 0, 8, 0, 8);
        ifHitIs(s -> tenZones(s, 1), 35, 9, 10, 0, 10, 0, 1);
        ifHitIs(s -> robinWithAGroup(s, 0), 35, 9, 1, 0, 0, 0, 1);
        ifHitIs(s -> robinWithAGroup(s, 1), 35, 9, 1, 1, 0, 1, 1);
        ifHitIs(s -> robinWithAGroup(s, 2), 35, 9, 1, 1, 0, 0, 1);
        ifHitIs(s -> robinWithAGroup(s, 1), 35, 8, 1, 1, 0, 0, 1);
        ifHitIs(StealEdgesTest::eightToChoke, 1, 1, 2, 8, 0, 0, 2);
    }

    private void chord() {
        sentence("chord: how many voices would begin, choked and stolen ones counted as well");
        due("no zone", x.chord(63, 5, 9), 0);
        wideZones(10);
        x.set(VOICES, 1);
        due("all of all", x.chord(63, 0, 9), 60);
        due("one key", x.chord(32, 5, 1), 10);
        for (int zone = 0; zone < 10; zone++) {
            x.like(zone, 1, 0, 60);
        }
        due("choked ones, too", x.chord(63, 3, 9), 60);
        for (int zone = 0; zone < 10; zone++) {
            x.like(zone, 1, 4, 60);
        }
        due("one of the robin with each key", x.chord(63, 3, 9), 6);
        counted(TURNS + 3, 0);
        counted(BEGAN, 0);
        anew();
        x.zone(0, 0, 1, 9);
        x.zone(35, 35, 9, 9);
        x.zone(11, 12, 5, 5);
        due("key 0", x.chord(1, 0, 1), 1);
        due("keys 1 to 5", x.chord(62, 0, 1), 0);
        due("key 35", x.chord(32, 5, 9), 1);
        due("keys 30 to 34", x.chord(31, 5, 9), 0);
        due("key 35, softly", x.chord(63, 5, 8), 0);
        due("key 11", x.chord(63, 1, 5), 1);
        due("key 12", x.chord(1, 2, 5), 1);
        due("key 12, harder", x.chord(63, 2, 6), 0);
    }

    @Override
    void tests() {
        oldest();
        leastLoud();
        letGoFirst();
        placesOfEight();
        placesAreTheOrder();
        ownNote();
        setVoices();
        setOthers();
        setReturns();
        counts();
        everyVoiceIsCounted();
        loudness();
        silentIn();
        ifHit();
        chord();
    }

    public static void main(String[] args) {
        new StealEdgesTest().run();
    }
}
