/** The boundary sentences of the document on zones, robins, and the map of keys and forces; each with a test of its own. */
final class ZoneEdgesTest extends Edges {
    private void noZone() {
        sentence("Creates a sampler without zones.");
        counted(ZONES, 0);
        due("zoneOf(0, 0)", x.zoneOf(0, 0), BAD);
        due("takeZone(0)", x.takeZone(0), BAD);
        due("like(0, ..)", x.like(0, 0, 0, 60), BAD);
        due("answers", x.answers(0, 1), 0);
        due("hit", x.hit(35, 9), 0);
        counted(SOUNDING, 0);
    }

    private void newZone() {
        sentence("A zone comes, without a group and a robin, with the length 60.");
        x.zone(0, 35, 1, 9);
        due("group", x.zoneOf(0, 4), 0);
        due("robin", x.zoneOf(0, 5), 0);
        due("length", x.zoneOf(0, 6), 60);
        due("voices", x.zoneOf(0, 7), 0);
        x.takeZone(0);
        x.zone(0, 35, 1, 9);
        x.like(0, 3, 4, 1);
        x.takeZone(0);
        x.zone(1, 1, 1, 1);
        due("group, behind another zone 0", x.zoneOf(0, 4), 0);
        due("robin, behind another zone 0", x.zoneOf(0, 5), 0);
        due("length, behind another zone 0", x.zoneOf(0, 6), 60);
    }

    private void tenZones() {
        sentence("There are at most 10 zones, numbered from 0 in the order in which they came");
        for (int i = 0; i < 10; i++) {
            due("zone " + i, x.zone(i, 35, 1, 9), i);
            counted(ZONES, i + 1);
        }
        due("the 11th", x.zone(0, 35, 1, 9), FULL);
        counted(ZONES, 10);
        for (int i = 0; i < 10; i++) {
            due("lowest key of " + i, x.zoneOf(i, 0), i);
        }
        due("no zone 10", x.zoneOf(10, 0), BAD);
    }

    private void lowestKeys(int... due) {
        counted(ZONES, due.length);
        for (int zone = 0; zone < due.length; zone++) {
            due("lowest key of " + zone, x.zoneOf(zone, 0), due[zone]);
        }
    }

    private void tenDifferent() {
        for (int i = 0; i < 10; i++) {
            x.zone(i, 20 + i, 1, 9);
            x.like(i, i % 4, i % 5, 50 + i);
        }
    }

    private void takenZones() {
        sentence("when one is taken away, those with greater numbers get numbers that are 1 less");
        tenDifferent();
        x.takeZone(9);
        lowestKeys(0, 1, 2, 3, 4, 5, 6, 7, 8);
        x.takeZone(0);
        lowestKeys(1, 2, 3, 4, 5, 6, 7, 8);
        x.takeZone(3);
        lowestKeys(1, 2, 3, 5, 6, 7, 8);
        due("highest key of 3", x.zoneOf(3, 1), 25);
        due("group of 3", x.zoneOf(3, 4), 1);
        due("robin of 3", x.zoneOf(3, 5), 0);
        due("length of 3", x.zoneOf(3, 6), 55);
        due("a new one is the last", x.zone(30, 35, 1, 9), 7);
        lowestKeys(1, 2, 3, 5, 6, 7, 8, 30);
        anew();
        tenDifferent();
        x.takeZone(4);
        due("there is room for one", x.zone(33, 35, 1, 9), 9);
        due("and no more", x.zone(33, 35, 1, 9), FULL);
        lowestKeys(0, 1, 2, 3, 5, 6, 7, 8, 9, 33);
    }

    private void voicesOfTakenZones() {
        sentence("when one is taken away, those with greater numbers get numbers that are 1 less: of voices");
        wideZones(5);
        x.hit(0, 9);
        voicesAre(0, 0, 1, 2, 3, 4);
        x.takeZone(2);
        voicesAre(0, 0, 1, 2, 3);
        x.takeZone(3);
        voicesAre(0, 0, 1, 2);
        x.takeZone(0);
        voicesAre(0, 0, 1);
        due("voices of 0", x.zoneOf(0, 7), 1);
        due("voices of 1", x.zoneOf(1, 7), 1);
    }

    private void takeStopsVoices() {
        sentence("When a zone is taken away, its voices stop.");
        x.zone(0, 5, 1, 9);
        x.zone(5, 9, 1, 9);
        due("none of it", x.takeZone(1), 0);
        x.zone(5, 9, 1, 9);
        x.hit(4, 9);
        x.hit(5, 9);
        due("one of three is of another zone", x.takeZone(0), 2);
        voicesAre(1, 5);
        counted(STOPPED, 2);
        due("the last one", x.takeZone(0), 1);
        counted(SOUNDING, 0);
        counted(STOPPED, 3);
        anew();
        wideZones(1);
        x.set(VOICES, 8);
        for (int key = 0; key < 8; key++) {
            x.hit(key, 9);
        }
        x.pedal();
        x.letGo(1);
        due("all eight, held and hung", x.takeZone(0), 8);
        counted(SOUNDING, 0);
        counted(STOPPED, 8);
        counted(ENDED, 0);
        counted(CHOKED, 0);
        counted(STOLEN, 0);
    }

    private void likeCounts() {
        sentence("like: Returns how many zones have this group then, 0 for the group 0");
        wideZones(10);
        for (int zone = 0; zone < 10; zone++) {
            due("group 3", x.like(zone, 3, 0, 60), zone + 1);
        }
        due("the same again", x.like(9, 3, 0, 60), 10);
        due("group 0", x.like(4, 0, 0, 60), 0);
        due("group 0 of two", x.like(5, 0, 0, 60), 0);
        due("group 1, the only one", x.like(6, 1, 0, 60), 1);
        due("seven are left", x.like(0, 3, 0, 60), 7);
        due("group 2 of none before", x.like(6, 2, 0, 60), 1);
    }

    private void likeChangesAll() {
        sentence("like: Changes what a zone is like.");
        wideZones(3);
        x.like(1, 3, 4, 1);
        x.like(1, 0, 0, 60);
        for (int zone = 0; zone < 3; zone++) {
            due("group", x.zoneOf(zone, 4), 0);
            due("robin", x.zoneOf(zone, 5), 0);
            due("length", x.zoneOf(zone, 6), 60);
        }
        x.like(2, 1, 2, 3);
        due("lowest key stays", x.zoneOf(2, 0), 0);
        due("highest key stays", x.zoneOf(2, 1), 35);
        due("least force stays", x.zoneOf(2, 2), 1);
        due("greatest force stays", x.zoneOf(2, 3), 9);
        due("the one before stays", x.zoneOf(1, 6), 60);
    }

    private void answersIn(int low, int high, int softest, int hardest) {
        anew();
        x.zone(low, high, softest, hardest);
        for (int key = 0; key <= 35; key++) {
            for (int force = 1; force <= 9; force++) {
                boolean inside = low <= key && key <= high && softest <= force && force <= hardest;
                due("answers(" + key + ", " + force + ")", x.answers(key, force), inside ? 1 : 0);
            }
        }
    }

    private void ranges() {
        sentence("It answers a note, if the key and the force are in its ranges.");
        answersIn(0, 35, 1, 9);
        answersIn(0, 0, 1, 1);
        answersIn(35, 35, 9, 9);
        answersIn(5, 9, 3, 6);
        answersIn(0, 34, 1, 8);
        answersIn(1, 35, 2, 9);
        anew();
        x.zone(5, 9, 3, 6);
        int[][] corners = {{5, 3}, {5, 6}, {9, 3}, {9, 6}};
        for (int[] c : corners) {
            due("hit at a corner", x.hit(c[0], c[1]), 1);
        }
        int[][] outside = {{4, 3}, {5, 2}, {9, 7}, {10, 6}, {4, 6}, {10, 3}};
        for (int[] o : outside) {
            due("hit just outside", x.hit(o[0], o[1]), 0);
        }
    }

    private void answersAll() {
        sentence("answers: Returns how many (of a robin all that answer)");
        wideZones(10);
        for (int zone = 0; zone < 10; zone++) {
            x.like(zone, 1, zone < 8 ? 1 : 2, 60);
        }
        due("all ten", x.answers(35, 9), 10);
        due("but two sound", x.hit(35, 9), 2);
        due("all ten again", x.answers(35, 9), 10);
    }

    private void oneOfARobin() {
        sentence("The zones of a robin (1 to 4) take turns: of all zones of this robin that answer a note one sounds.");
        for (int robin = 0; robin <= 4; robin++) {
            anew();
            wideZones(3);
            for (int zone = 0; zone < 3; zone++) {
                x.like(zone, 0, robin, 60);
            }
            due("robin " + robin, x.hit(0, 5), robin == 0 ? 3 : 1);
            counted(SOUNDING, robin == 0 ? 3 : 1);
        }
        anew();
        wideZones(9);
        for (int zone = 0; zone < 8; zone++) {
            x.like(zone, 0, 4 - zone / 2, 60);
        }
        due("one of each of the four, and the one without", x.hit(0, 5), 5);
        voicesAre(0, 0, 2, 4, 6, 8);
        anew();
        wideZones(1);
        x.like(0, 0, 4, 60);
        due("alone", x.hit(0, 5), 1);
        due("alone, the second time", x.hit(1, 5), 1);
    }

    private void firstTurn() {
        sentence("Each robin has a turn, 0 at first");
        for (int robin = 0; robin < 4; robin++) {
            counted(TURNS + robin, 0);
        }
        wideZones(4);
        for (int zone = 0; zone < 4; zone++) {
            x.like(zone, 0, 4 - zone, 60);
            counted(TURNS + zone, 0);
        }
        due("all sound, each the first of its robin", x.hit(0, 1), 4);
    }

    private void soundsAt(int key, int zone) {
        int before = x.count(SOUNDING);
        due("one sounds", x.hit(key, 5), 1);
        voiceIs(before, 0, zone);
        x.silence();
    }

    private void turnModuloM() {
        sentence("the one sounds whose place among them (by their numbers, from 0) is the turn modulo m");
        for (int m = 1; m <= 10; m++) {
            anew();
            wideZones(m);
            for (int zone = 0; zone < m; zone++) {
                x.like(zone, 0, 3, 60);
            }
            for (int turn = 0; turn <= 2 * m + 1; turn++) {
                counted(TURNS + 2, turn);
                soundsAt(0, turn % m);
            }
        }
        anew();
        x.zone(0, 9, 1, 9);
        x.zone(5, 9, 1, 9);
        x.zone(9, 20, 1, 9);
        for (int zone = 0; zone < 3; zone++) {
            x.like(zone, 0, 1, 60);
        }
        soundsAt(9, 0);
        soundsAt(9, 1);
        soundsAt(9, 2);
        soundsAt(5, 1);
        soundsAt(5, 0);
        soundsAt(20, 2);
        soundsAt(9, 0);
        soundsAt(0, 0);
        soundsAt(9, 2);
        soundsAt(5, 1);
    }

    private void turnAfterManyNotes() {
        sentence("the turn modulo m, and then the turn grows by 1: up to the 512th call");
        wideZones(3);
        for (int zone = 0; zone < 3; zone++) {
            x.like(zone, 1, 2, 60);
        }
        for (int turn = 0; turn < 500; turn++) {
            x.hit(0, 9);
        }
        counted(TURNS + 1, 500);
        voicesAre(0, 499 % 3);
        due("the next one", x.ifHit(0, 9, 3), 500 % 3);
    }

    private void turnsThatStay() {
        sentence("then the turn grows by 1 (only when a note is hit that zones of it answer)");
        x.zone(5, 9, 3, 6);
        x.zone(5, 9, 3, 6);
        x.zone(0, 35, 1, 9);
        x.like(0, 0, 2, 60);
        x.like(1, 0, 2, 60);
        x.like(2, 0, 4, 60);
        x.hit(4, 3);
        x.hit(10, 3);
        x.hit(5, 2);
        x.hit(5, 7);
        x.hit(-1, 3);
        x.hit(5, 10);
        x.ifHit(5, 3, 0);
        x.ifHit(5, 3, 3);
        x.chord(63, 1, 3);
        x.answers(5, 3);
        x.zoneOf(1, 8);
        int[] before = {0, 0, 0, 4};
        for (int robin = 0; robin < 4; robin++) {
            counted(TURNS + robin, before[robin]);
        }
        x.hit(5, 3);
        int[] behind = {0, 1, 0, 5};
        for (int robin = 0; robin < 4; robin++) {
            counted(TURNS + robin, behind[robin]);
        }
        x.takeZone(2);
        x.takeZone(1);
        x.like(0, 0, 0, 60);
        counted(TURNS + 1, 1);
        counted(TURNS + 3, 5);
        x.hit(5, 3);
        counted(TURNS + 1, 1);
        counted(TURNS + 3, 5);
    }

    private void canSound() {
        sentence("zoneOf 8: 1 if there is a key and a force with which it would sound now, otherwise 0");
        wideZones(10);
        for (int zone = 0; zone < 10; zone++) {
            due("without a robin", x.zoneOf(zone, 8), 1);
            x.like(zone, 0, 1, 60);
        }
        for (int turn = 0; turn < 11; turn++) {
            for (int zone = 0; zone < 10; zone++) {
                due("zone " + zone + " at turn " + turn, x.zoneOf(zone, 8), zone == turn % 10 ? 1 : 0);
            }
            x.hit(0, 1);
        }
        int[][] corners = {{0, 1}, {0, 9}, {35, 1}, {35, 9}};
        for (int[] c : corners) {
            onlyAt(c[0], c[1]);
        }
        anew();
        wideZones(1);
        x.set(VOICES, 1);
        x.hit(0, 9);
        due("as many voices as VOICES hinder nothing", x.zoneOf(0, 8), 1);
    }

    /** The last zone has its turn only where the zone before it does not answer: at one place. */
    private void onlyAt(int key, int force) {
        anew();
        if (key == 0) {
            x.zone(1, 35, 1, 9);
        } else {
            x.zone(0, 34, 1, 9);
        }
        if (force == 1) {
            x.zone(key, key, 2, 9);
        } else {
            x.zone(key, key, 1, 8);
        }
        x.zone(0, 35, 1, 9);
        for (int zone = 0; zone < 3; zone++) {
            x.like(zone, 0, 4, 60);
        }
        due("alone at " + key + ", " + force, x.zoneOf(2, 8), 1);
        x.zone(key, key, force, force);
        x.like(3, 0, 4, 60);
        due("alone before one of a greater number", x.zoneOf(2, 8), 1);
        due("the turn of the other one", x.zoneOf(3, 8), 0);
    }

    private void voicesOfAZone() {
        sentence("zoneOf 7: how many of its voices sound");
        wideZones(2);
        x.set(VOICES, 8);
        due("none", x.zoneOf(0, 7), 0);
        for (int key = 0; key < 4; key++) {
            x.hit(key, 9);
        }
        due("four of eight", x.zoneOf(0, 7), 4);
        due("four of eight", x.zoneOf(1, 7), 4);
        x.takeZone(0);
        for (int key = 4; key < 8; key++) {
            x.hit(key, 9);
        }
        due("all eight", x.zoneOf(0, 7), 8);
        x.silence();
        due("none again", x.zoneOf(0, 7), 0);
    }

    private void mapIs(int holes, int overlaps, int deepest, int firstHole) {
        int[] due = {holes, overlaps, deepest, firstHole};
        for (int what = 0; what < 4; what++) {
            for (int way = 0; way < 2; way++) {
                due("map(" + what + ", " + way + ")", x.map(what, way), due[what]);
            }
        }
    }

    private void emptyMap() {
        sentence("map: of no zone");
        mapIs(324, 0, 0, 0);
    }

    private void fullMap() {
        sentence("map: of ten zones everywhere");
        wideZones(10);
        mapIs(0, 324, 10, NONE);
    }

    private void holes() {
        sentence("map 0 and 3: places that no zone answers; the first key with one, NOT_FOUND without one");
        x.zone(0, 34, 1, 9);
        mapIs(9, 0, 1, 35);
        x.zone(35, 35, 1, 8);
        mapIs(1, 0, 1, 35);
        x.zone(35, 35, 9, 9);
        mapIs(0, 0, 1, NONE);
        anew();
        x.zone(1, 35, 1, 9);
        x.zone(0, 0, 2, 9);
        mapIs(1, 0, 1, 0);
        x.zone(0, 0, 1, 1);
        mapIs(0, 0, 1, NONE);
        anew();
        x.zone(0, 16, 1, 9);
        x.zone(18, 35, 1, 9);
        mapIs(9, 0, 1, 17);
        x.zone(17, 17, 1, 4);
        x.zone(17, 17, 6, 9);
        mapIs(1, 0, 1, 17);
        x.zone(17, 17, 5, 5);
        mapIs(0, 0, 1, NONE);
    }

    private void overlaps() {
        sentence("map 1 and 2: places that two or more zones answer; the greatest number at a place");
        x.zone(0, 17, 1, 9);
        x.zone(18, 35, 1, 9);
        mapIs(0, 0, 1, NONE);
        x.zone(17, 18, 9, 9);
        mapIs(0, 2, 2, NONE);
        x.zone(17, 17, 9, 9);
        mapIs(0, 2, 3, NONE);
        x.zone(0, 0, 1, 1);
        mapIs(0, 3, 3, NONE);
        x.zone(35, 35, 9, 9);
        mapIs(0, 4, 3, NONE);
        x.zone(35, 35, 9, 9);
        x.zone(35, 35, 9, 9);
        mapIs(0, 4, 4, NONE);
        anew();
        x.zone(0, 10, 1, 5);
        x.zone(10, 20, 5, 9);
        mapIs(324 - 55 - 55 + 1, 1, 2, 0);
    }

    private void mapForgets() {
        sentence("map: asked again, behind another look and a zone less");
        wideZones(2);
        mapIs(0, 324, 2, NONE);
        mapIs(0, 324, 2, NONE);
        x.takeZone(0);
        mapIs(0, 0, 1, NONE);
        x.takeZone(0);
        mapIs(324, 0, 0, 0);
        x.undo();
        mapIs(0, 0, 1, NONE);
    }

    @Override
    void tests() {
        noZone();
        newZone();
        tenZones();
        takenZones();
        voicesOfTakenZones();
        takeStopsVoices();
        likeCounts();
        likeChangesAll();
        ranges();
        answersAll();
        oneOfARobin();
        firstTurn();
        turnModuloM();
        turnAfterManyNotes();
        turnsThatStay();
        canSound();
        voicesOfAZone();
        emptyMap();
        fullMap();
        holes();
        overlaps();
        mapForgets();
    }

    public static void main(String[] args) {
        new ZoneEdgesTest().run();
    }
}
