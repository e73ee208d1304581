/** The boundary sentences of the document on notes and voices: how they begin, are held, choke and end. */
final class VoiceEdgesTest extends Edges {
    private void noVoice() {
        sentence("no voice: of a new sampler, and of one with zones");
        for (int zones = 0; zones <= 10; zones += 10) {
            anew();
            wideZones(zones);
            for (int what = SOUNDING; what <= LOUD; what++) {
                counted(what, 0);
            }
            due("voice(0, 0)", x.voice(0, 0), BAD);
            due("letGo", x.letGo(0), 0);
            due("pedal", x.pedal(), 0);
            due("pedal", x.pedal(), 0);
            due("pass", x.pass(99), 0);
            due("silence", x.silence(), 0);
            due("silentIn", x.silentIn(), 0);
            check.same("loudness", x.loudness(), 0.0);
            due("save", x.save(), 0);
            due("restore", x.restore(), 0);
            due("VOICES", x.set(VOICES, 1), 6);
            for (int what = BEGAN; what <= STOPPED; what++) {
                counted(what, 0);
            }
        }
    }

    private void atFirst() {
        sentence("It has a loudness, at first 10 times the force, and an age, 0 at first.");
        x.zone(0, 35, 1, 9);
        for (int force = 1; force <= 9; force++) {
            x.hit(0, force);
            voicesAre(3, 10 * force);
            voicesAre(4, 0);
            voicesAre(2, force);
            x.pass(5);
            x.silence();
        }
    }

    private void hitCounts() {
        sentence("hit: Returns how many voices begin (also those that are stolen by the same note)");
        due("no zone", x.hit(0, 9), 0);
        wideZones(10);
        due("ten, with VOICES 6", x.hit(0, 9), 10);
        counted(BEGAN, 10);
        counted(STOLEN, 4);
        x.set(VOICES, 1);
        due("ten, with VOICES 1", x.hit(0, 9), 10);
        counted(BEGAN, 20);
        voicesAre(0, 9);
        anew();
        x.zone(5, 5, 5, 5);
        due("no zone answers", x.hit(5, 4), 0);
        counted(BEGAN, 0);
    }

    private void byTheNumbersOfTheZones() {
        sentence("first a voice of each zone that answers begins, by the numbers of the zones");
        x.zone(9, 9, 1, 9);
        x.zone(0, 35, 1, 9);
        x.zone(8, 9, 1, 9);
        x.zone(9, 10, 2, 9);
        x.zone(9, 9, 1, 1);
        x.hit(9, 1);
        voicesAre(0, 0, 1, 2, 4);
        x.silence();
        x.like(0, 0, 1, 60);
        x.like(1, 0, 2, 60);
        x.like(2, 0, 1, 60);
        x.hit(9, 2);
        voicesAre(0, 0, 1, 3);
        x.silence();
        x.hit(9, 2);
        voicesAre(0, 1, 2, 3);
    }

    private void inTheOrderInWhichTheyBegan() {
        sentence("At most VOICES voices sound at a time, in the order in which they began.");
        wideZones(1);
        counted(SETTINGS, 6);
        for (int key = 0; key < 6; key++) {
            x.hit(key, 9);
            counted(SOUNDING, key + 1);
        }
        counted(STOLEN, 0);
        x.hit(6, 9);
        voicesAre(1, 1, 2, 3, 4, 5, 6);
        counted(STOLEN, 1);
        for (int most = 1; most <= 8; most++) {
            anew();
            wideZones(1);
            x.set(VOICES, most);
            for (int key = 0; key < most; key++) {
                x.hit(key, 9);
                counted(STOLEN, 0);
            }
            counted(SOUNDING, most);
            voiceIs(0, 1, 0);
            x.hit(30, 9);
            counted(SOUNDING, most);
            counted(STOLEN, 1);
            voiceIs(most - 1, 1, 30);
            voiceIs(0, 1, most == 1 ? 30 : 1);
        }
    }

    private void held() {
        sentence("It is held (as long as the key is down), hung (the key is up, but the pedal is down), or let go.");
        wideZones(1);
        x.hit(0, 9);
        voicesAre(5, 0);
        x.pass(59);
        voicesAre(5, 0);
        x.silence();
        x.pedal();
        x.hit(0, 9);
        voicesAre(5, 0);
        x.letGo(0);
        voicesAre(5, 1);
        x.pedal();
        voicesAre(5, 2);
        x.pedal();
        voicesAre(5, 2);
    }

    private void heldAfterOthers() {
        sentence("It is held (as long as the key is down): also one that begins where another one was let go or hung");
        for (int pedal = 0; pedal <= 1; pedal++) {
            anew();
            wideZones(1);
            if (pedal == 1) {
                x.pedal();
            }
            x.hit(0, 9);
            x.pass(3);
            x.letGo(0);
            x.silence();
            x.hit(1, 2);
            voicesAre(5, 0);
            voicesAre(4, 0);
            voicesAre(3, 20);
            x.letGo(1);
            x.pass(20);
            counted(SOUNDING, 0);
            x.hit(1, 9);
            voicesAre(5, 0);
            x.letGo(1);
            x.set(VOICES, 1);
            x.hit(2, 9);
            voicesAre(5, 0);
        }
    }

    private void hitAgain() {
        sentence("A key that is hit again while its voices are held: those are let go first (also with the pedal down).");
        for (int pedal = 0; pedal <= 1; pedal++) {
            anew();
            wideZones(2);
            if (pedal == 1) {
                x.pedal();
            }
            x.hit(0, 9);
            x.hit(1, 9);
            x.hit(0, 9);
            voicesAre(5, 2, 2, 0, 0, 0, 0);
            counted(PEDAL, pedal);
        }
    }

    private void hitAgainTooSoft() {
        sentence("A key that is hit again while its voices are held: those are let go first, also if no zone answers");
        x.zone(0, 35, 5, 9);
        x.hit(0, 9);
        x.hit(35, 9);
        due("too soft", x.hit(35, 4), 0);
        voicesAre(5, 0, 2);
        x.pedal();
        due("too soft", x.hit(0, 4), 0);
        voicesAre(5, 2, 2);
        due("none is held", x.letGo(0), 0);
    }

    private void hitAgainHung() {
        sentence("A key that is hit again while its voices are held: hung ones stay hung");
        wideZones(1);
        x.pedal();
        x.hit(0, 9);
        x.letGo(0);
        x.hit(0, 9);
        voicesAre(5, 1, 0);
    }

    private void hitAgainStealsIt() {
        sentence("those are let go first: before a voice is stolen");
        wideZones(1);
        x.set(VOICES, 2);
        x.set(STEAL, 2);
        x.hit(0, 9);
        x.hit(1, 9);
        x.hit(1, 9);
        voicesAre(1, 0, 1);
        voicesAre(5, 0, 0);
        due("of what would be, too", x.ifHit(1, 9, 2), 1);
        voicesAre(5, 0, 0);
    }

    private void keyUp() {
        sentence("A key is let go: its voices that are held are hung, if the pedal is down, otherwise they are let go.");
        wideZones(1);
        x.hit(0, 9);
        x.hit(1, 9);
        x.hit(35, 9);
        due("a key without voices", x.letGo(2), 0);
        due("key 0", x.letGo(0), 1);
        voicesAre(5, 2, 0, 0);
        x.pedal();
        due("key 0, no longer held", x.letGo(0), 0);
        voicesAre(5, 2, 0, 0);
        due("key 35", x.letGo(35), 1);
        voicesAre(5, 2, 0, 1);
        due("key 35, hung", x.letGo(35), 0);
        voicesAre(5, 2, 0, 1);
        anew();
        wideZones(8);
        x.set(VOICES, 8);
        x.hit(7, 9);
        due("letGo: how many voices were held by it: eight", x.letGo(7), 8);
        due("letGo: none", x.letGo(7), 0);
    }

    private void pedalUp() {
        sentence("The pedal is lifted: all voices that are hung are let go.");
        wideZones(8);
        x.set(VOICES, 8);
        due("down", x.pedal(), 0);
        x.hit(7, 9);
        due("up, all are held", x.pedal(), 0);
        voicesAre(5, 0, 0, 0, 0, 0, 0, 0, 0);
        due("down", x.pedal(), 0);
        x.letGo(7);
        due("up, all are hung", x.pedal(), 8);
        voicesAre(5, 2, 2, 2, 2, 2, 2, 2, 2);
        due("down", x.pedal(), 0);
        voicesAre(5, 2, 2, 2, 2, 2, 2, 2, 2);
        due("up, all are let go", x.pedal(), 0);
    }

    private void louder(int fade, int ticks, int due) {
        anew();
        wideZones(1);
        x.set(FADE, fade);
        x.hit(0, 9);
        x.letGo(0);
        x.pass(ticks);
        if (due > 0) {
            voicesAre(3, due);
        } else {
            counted(SOUNDING, 0);
            counted(ENDED, 1);
        }
    }

    private void fade() {
        sentence("its loudness becomes 1 less, if it is held or hung, otherwise FADE less");
        louder(1, 1, 89);
        louder(1, 59, 31);
        louder(10, 8, 10);
        louder(10, 9, 0);
        louder(50, 1, 40);
        louder(50, 2, 0);
        louder(45, 2, 0);
        louder(44, 2, 2);
        anew();
        wideZones(1);
        x.set(FADE, 50);
        x.pedal();
        x.hit(0, 9);
        x.hit(1, 9);
        x.letGo(0);
        x.pass(59);
        voicesAre(3, 31, 31);
        voicesAre(5, 1, 0);
    }

    private void endsByLoudness() {
        sentence("a voice with a loudness of 0 or less ends");
        wideZones(1);
        x.hit(0, 1);
        due("nine ticks", x.pass(9), 0);
        voicesAre(3, 1);
        due("the tenth", x.pass(1), 1);
        counted(SOUNDING, 0);
        x.hit(0, 1);
        x.letGo(0);
        due("10 less 10", x.pass(1), 1);
        x.hit(0, 1);
        x.letGo(0);
        x.set(FADE, 9);
        due("10 less 9", x.pass(1), 0);
        voicesAre(3, 1);
        x.set(FADE, 50);
        due("far below 0", x.pass(1), 1);
        counted(LOUD, 0);
        counted(ENDED, 3);
    }

    private void endsByAge() {
        sentence("a voice with an age of the length of its zone or more ends");
        wideZones(3);
        x.like(0, 0, 0, 1);
        x.like(1, 0, 0, 5);
        x.hit(0, 9);
        due("length 1", x.pass(1), 1);
        voicesAre(0, 1, 2);
        due("age 4", x.pass(3), 0);
        voicesAre(4, 4, 4);
        due("length 5", x.pass(1), 1);
        due("age 59", x.pass(54), 0);
        voicesAre(4, 59);
        due("length 60", x.pass(1), 1);
        anew();
        wideZones(1);
        x.hit(0, 9);
        x.pass(10);
        x.like(0, 0, 0, 10);
        counted(SOUNDING, 1);
        due("already as old as its length", x.pass(1), 1);
        anew();
        wideZones(1);
        x.hit(0, 9);
        x.pass(40);
        x.like(0, 0, 0, 3);
        counted(SOUNDING, 1);
        due("far older than its length", x.pass(1), 1);
        anew();
        wideZones(1);
        x.like(0, 0, 0, 3);
        x.hit(0, 9);
        x.pass(2);
        x.like(0, 0, 0, 60);
        due("a longer zone", x.pass(57), 0);
        due("its end", x.pass(1), 1);
    }

    private void passCounts() {
        sentence("pass: Returns how many voices end in them");
        wideZones(8);
        x.set(VOICES, 8);
        x.hit(0, 9);
        due("none", x.pass(59), 0);
        due("all eight at once", x.pass(1), 8);
        counted(ENDED, 8);
        for (int zone = 0; zone < 8; zone++) {
            x.like(zone, 0, 0, 5 + zone);
        }
        x.hit(0, 9);
        due("all eight one after the other", x.pass(99), 8);
        counted(ENDED, 16);
        counted(TICKS, 60 + 99);
        due("none is left", x.pass(1), 0);
        counted(TICKS, 160);
    }

    private void silence() {
        sentence("silence: Stops all voices. Returns how many there were.");
        due("none", x.silence(), 0);
        counted(STOPPED, 0);
        wideZones(8);
        x.set(VOICES, 8);
        x.pedal();
        x.hit(0, 9);
        x.hit(1, 9);
        x.letGo(1);
        due("all eight", x.silence(), 8);
        counted(SOUNDING, 0);
        counted(STOPPED, 8);
        due("none is left", x.silence(), 0);
        counted(STOPPED, 8);
        counted(PEDAL, 1);
    }

    private void chokes(int group) {
        anew();
        wideZones(2);
        x.like(0, group, 0, 60);
        x.hit(0, 9);
        x.hit(1, 9);
        counted(CHOKED, group > 0 ? 1 : 0);
        counted(SOUNDING, group > 0 ? 3 : 4);
    }

    private void choked() {
        sentence("When a voice of a zone with a group from 1 to 3 begins, all voices of zones with the same group are choked");
        for (int group = 0; group <= 3; group++) {
            chokes(group);
        }
        anew();
        x.zone(0, 0, 1, 9);
        x.zone(1, 1, 1, 9);
        x.like(0, 1, 0, 60);
        x.like(1, 2, 0, 60);
        x.hit(0, 9);
        x.hit(1, 9);
        counted(CHOKED, 0);
        x.like(1, 1, 0, 60);
        due("both are of one group now", x.ifHit(0, 9, 1), 2);
        x.like(0, 0, 0, 60);
        due("of none now", x.ifHit(0, 9, 1), 0);
        due("no zone answers", x.ifHit(2, 9, 1), 0);
    }

    private void chokedAll() {
        sentence("all voices of zones with the same group are choked: held, hung and let go ones, eight of eight");
        x.zone(0, 7, 1, 9);
        x.zone(8, 8, 1, 9);
        x.zone(9, 9, 1, 9);
        x.set(VOICES, 8);
        x.pedal();
        for (int key = 0; key < 8; key++) {
            x.hit(key, 9);
        }
        x.letGo(5);
        x.hit(2, 1);
        x.like(0, 2, 0, 60);
        x.like(1, 2, 0, 60);
        x.like(2, 3, 0, 60);
        x.hit(9, 9);
        counted(CHOKED, 0);
        voicesAre(1, 2, 3, 4, 5, 6, 7, 2, 9);
        voicesAre(5, 2, 0, 0, 1, 0, 0, 0, 0);
        x.hit(8, 9);
        counted(CHOKED, 7);
        voicesAre(1, 9, 8);
    }

    private void notChokedByTheirOwnNote() {
        sentence("voices that began by earlier notes are choked: those of the same note are not");
        wideZones(6);
        for (int zone = 0; zone < 6; zone++) {
            x.like(zone, 1, 0, 60);
        }
        x.hit(0, 9);
        counted(CHOKED, 0);
        counted(SOUNDING, 6);
        x.hit(0, 9);
        counted(CHOKED, 6);
        counted(SOUNDING, 6);
        x.undo();
        x.hit(0, 9);
        counted(CHOKED, 6);
        x.save();
        x.restore();
        x.hit(0, 9);
        counted(CHOKED, 12);
        counted(SOUNDING, 6);
    }

    private void chokedByTheScore() {
        sentence("voices that began by earlier notes are choked: earlier notes of one score, too");
        wideZones(2);
        x.like(0, 3, 0, 60);
        x.like(1, 3, 0, 60);
        pad("n0.9;n0.9;n1.1");
        due("play", x.play(), 6);
        counted(CHOKED, 4);
        voicesAre(1, 1, 1);
    }

    private void chokingMakesRoom() {
        sentence("When a voice begins, and (behind that choking) there are as many as VOICES already, another one is stolen");
        wideZones(1);
        x.like(0, 1, 0, 60);
        x.set(VOICES, 1);
        x.hit(0, 9);
        x.hit(1, 9);
        counted(CHOKED, 1);
        counted(STOLEN, 0);
        x.like(0, 0, 0, 60);
        x.hit(2, 9);
        counted(CHOKED, 1);
        counted(STOLEN, 1);
        anew();
        wideZones(2);
        x.set(VOICES, 2);
        x.like(1, 2, 0, 60);
        x.hit(0, 9);
        due("zone 0 steals zone 0's, then zone 1 chokes", x.hit(1, 9), 2);
        counted(STOLEN, 1);
        counted(CHOKED, 1);
        voicesAre(0, 0, 1);
        voicesAre(1, 1, 1);
    }

    private void chokeOfAStolenVoice() {
        sentence("another one is stolen first: a voice that is stolen can not be choked any more");
        x.zone(0, 35, 1, 9);
        x.zone(1, 35, 1, 9);
        x.like(1, 3, 0, 60);
        x.set(VOICES, 1);
        x.hit(1, 9);
        voicesAre(0, 1);
        x.hit(1, 9);
        counted(STOLEN, 3);
        counted(CHOKED, 0);
    }

    @Override
    void tests() {
        noVoice();
        atFirst();
        hitCounts();
        byTheNumbersOfTheZones();
        inTheOrderInWhichTheyBegan();
        held();
        heldAfterOthers();
        hitAgain();
        hitAgainTooSoft();
        hitAgainHung();
        hitAgainStealsIt();
        keyUp();
        pedalUp();
        fade();
        endsByLoudness();
        endsByAge();
        passCounts();
        silence();
        choked();
        chokedAll();
        notChokedByTheirOwnNote();
        chokedByTheScore();
        chokingMakesRoom();
        chokeOfAStolenVoice();
    }

    public static void main(String[] args) {
        new VoiceEdgesTest().run();
    }
}
