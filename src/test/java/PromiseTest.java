/** Each promise of the document: ordinary inputs, the edges that it names, and wrong inputs. */
final class PromiseTest {
    private static final int BAD = ZoneSampler.INVALID_ARGUMENT;
    private static final int NOT_NOW = ZoneSampler.NOT_POSSIBLE;
    private static final int FULL = ZoneSampler.LIMIT_REACHED;
    private static final int NONE = ZoneSampler.NOT_FOUND;
    private static final int[] FAR = {Integer.MIN_VALUE, -1000, -5, -1, 100, 1000, Integer.MAX_VALUE};

    private static final int ZONES = 0, SOUNDING = 1, HELD = 2, HUNG = 3, FREE = 4, LOUD = 5, PEDAL = 6, TICKS = 7;
    private static final int BEGAN = 8, ENDED = 9, CHOKED = 10, STOLEN = 11, STOPPED = 12, PAD = 20, STATES = 21;

    private final Check check = new Check();
    private ZoneSampler x;

    private void promise(String name) {
        check.about(name);
        x = new ZoneSampler();
    }

    private void due(String what, int got, int due) {
        check.same(what, got, due);
    }

    private void counted(int what, int due) {
        due("count(" + what + ")", x.count(what), due);
    }

    private void voiceIs(int voice, int what, int due) {
        due("voice(" + voice + ", " + what + ")", x.voice(voice, what), due);
    }

    private void full(int zones) {
        for (int i = 0; i < zones; i++) {
            x.zone(0, 35, 1, 9);
        }
    }

    private void pad(String text) {
        x.clear();
        for (int i = 0; i < text.length(); i++) {
            x.append(text.charAt(i));
        }
    }

    private void faultIs(int way, String text, int due) {
        x = new ZoneSampler();
        pad(text);
        due("fault(" + way + ") of " + text, x.fault(way), due);
    }

    /** A call that returns an error makes no state of the history. */
    private void unchanged(int states) {
        counted(STATES, states);
    }

    private void constants() {
        promise("constants");
        due("INVALID_ARGUMENT", ZoneSampler.INVALID_ARGUMENT, -1);
        due("NOT_POSSIBLE", ZoneSampler.NOT_POSSIBLE, -2);
        due("LIMIT_REACHED", ZoneSampler.LIMIT_REACHED, -3);
        due("NOT_FOUND", ZoneSampler.NOT_FOUND, -4);
        due("VOICES", ZoneSampler.VOICES, 0);
        due("STEAL", ZoneSampler.STEAL, 1);
        due("FADE", ZoneSampler.FADE, 2);
    }

    private void promise1() {
        promise("1 a new object");
        for (int what = 0; what <= 21; what++) {
            int first = what == 13 ? 6 : what == 15 ? 10 : 0;
            counted(what, first);
        }
        due("undo", x.undo(), NOT_NOW);
        due("restore", x.restore(), NOT_NOW);
        due("silentIn", x.silentIn(), 0);
        due("hit", x.hit(0, 1), 0);
        ZoneSampler other = new ZoneSampler();
        other.zone(0, 1, 1, 1);
        counted(ZONES, 0);
    }

    private void promise2() {
        promise("2 zone");
        due("zone", x.zone(3, 3, 9, 9), 0);
        due("zone", x.zone(0, 35, 1, 9), 1);
        int[] first = {3, 3, 9, 9, 0, 0, 60, 0, 1};
        for (int what = 0; what <= 8; what++) {
            due("zoneOf(0, " + what + ")", x.zoneOf(0, what), first[what]);
        }
        due("low -1", x.zone(-1, 5, 1, 9), BAD);
        due("low 36", x.zone(36, 36, 1, 9), BAD);
        due("high 36", x.zone(0, 36, 1, 9), BAD);
        due("high below low", x.zone(5, 4, 1, 9), BAD);
        due("softest 0", x.zone(0, 5, 0, 9), BAD);
        due("softest 10", x.zone(0, 5, 10, 10), BAD);
        due("hardest 10", x.zone(0, 5, 1, 10), BAD);
        due("hardest below softest", x.zone(0, 5, 5, 4), BAD);
        for (int far : FAR) {
            due("low far", x.zone(far, 5, 1, 9), BAD);
            due("hardest far", x.zone(0, 5, 1, far), BAD);
        }
        unchanged(2);
        for (int i = 2; i < 10; i++) {
            due("zone", x.zone(0, 1, 1, 1), i);
        }
        due("the 11th", x.zone(0, 1, 1, 1), FULL);
        due("the 11th, wrong", x.zone(0, 36, 1, 1), BAD);
        counted(ZONES, 10);
    }

    private void promise3() {
        promise("3 like");
        full(3);
        due("like", x.like(0, 3, 4, 1), 1);
        due("like", x.like(2, 3, 0, 60), 2);
        due("the same again", x.like(2, 3, 0, 60), 2);
        due("group 0", x.like(1, 0, 0, 60), 0);
        due("another group", x.like(0, 1, 4, 1), 1);
        due("group", x.zoneOf(0, 4), 1);
        due("robin", x.zoneOf(0, 5), 4);
        due("length", x.zoneOf(0, 6), 1);
        x.undo();
        unchanged(3);
        due("zone -1", x.like(-1, 0, 0, 1), BAD);
        due("zone 3", x.like(3, 0, 0, 1), BAD);
        due("group -1", x.like(0, -1, 0, 1), BAD);
        due("group 4", x.like(0, 4, 0, 1), BAD);
        due("robin -1", x.like(0, 0, -1, 1), BAD);
        due("robin 5", x.like(0, 0, 5, 1), BAD);
        due("length 0", x.like(0, 0, 0, 0), BAD);
        due("length 61", x.like(0, 0, 0, 61), BAD);
        for (int far : FAR) {
            due("zone far", x.like(far, 0, 0, 1), BAD);
            due("group far", x.like(0, far, 0, 1), BAD);
        }
        unchanged(3);
    }

    private void likeWhileItSounds() {
        promise("3 like, while voices sound");
        full(2);
        x.hit(1, 9);
        x.pass(10);
        due("shorter than the age", x.like(0, 0, 0, 5), 0);
        counted(SOUNDING, 2);
        x.like(1, 0, 0, 10);
        due("silentIn", x.silentIn(), 1);
        due("pass", x.pass(1), 2);
        x.like(0, 2, 0, 60);
        x.hit(1, 9);
        x.like(1, 2, 0, 60);
        x.like(0, 0, 0, 60);
        due("its group of now is choked", x.ifHit(2, 9, 1), 1);
    }

    private void promise4() {
        promise("4 takeZone");
        x.zone(0, 0, 1, 9);
        x.zone(0, 1, 1, 9);
        x.zone(0, 2, 1, 9);
        x.hit(0, 5);
        x.hit(1, 5);
        due("takeZone", x.takeZone(1), 2);
        counted(ZONES, 2);
        counted(SOUNDING, 3);
        counted(STOPPED, 2);
        voiceIs(0, 0, 0);
        voiceIs(1, 0, 1);
        voiceIs(2, 0, 1);
        voiceIs(2, 1, 1);
        due("the next one moves up", x.zoneOf(1, 1), 2);
        due("takeZone -1", x.takeZone(-1), BAD);
        due("takeZone 2", x.takeZone(2), BAD);
        for (int far : FAR) {
            due("takeZone far", x.takeZone(far), BAD);
        }
        unchanged(4);
        due("takeZone", x.takeZone(1), 2);
        due("takeZone", x.takeZone(0), 1);
        due("none is left", x.takeZone(0), BAD);
        x.zone(0, 0, 1, 9);
        due("no voice", x.takeZone(0), 0);
        counted(STOPPED, 5);
    }

    private void promise5() {
        promise("5 hit");
        x.zone(5, 9, 3, 6);
        x.zone(9, 12, 6, 9);
        due("below", x.hit(4, 4), 0);
        due("too soft", x.hit(5, 2), 0);
        due("too hard", x.hit(5, 7), 0);
        due("lowest", x.hit(5, 3), 1);
        due("both", x.hit(9, 6), 2);
        voiceIs(0, 1, 5);
        voiceIs(0, 2, 3);
        voiceIs(0, 3, 30);
        voiceIs(0, 4, 0);
        voiceIs(0, 5, 0);
        voiceIs(1, 0, 0);
        voiceIs(2, 0, 1);
        counted(BEGAN, 3);
        x.letGo(9);
        x.pass(60);
        x.hit(9, 6);
        voiceIs(0, 4, 0);
        voiceIs(1, 4, 0);
        voiceIs(1, 5, 0);
        due("key -1", x.hit(-1, 5), BAD);
        due("key 36", x.hit(36, 5), BAD);
        due("force 0", x.hit(5, 0), BAD);
        due("force 10", x.hit(5, 10), BAD);
        for (int far : FAR) {
            due("key far", x.hit(far, 5), BAD);
            due("force far", x.hit(5, far), BAD);
        }
        unchanged(4);
        counted(BEGAN, 5);
    }

    private void hitAgain() {
        promise("5 hit, the same key again");
        full(1);
        x.hit(4, 9);
        x.pedal();
        x.hit(4, 9);
        voiceIs(0, 5, 2);
        voiceIs(1, 5, 0);
        x.letGo(4);
        x.hit(4, 9);
        voiceIs(1, 5, 1);
        x.like(0, 0, 0, 60);
        x.takeZone(0);
        x.zone(7, 7, 9, 9);
        x.hit(7, 9);
        due("too soft to sound", x.hit(7, 1), 0);
        voiceIs(0, 5, 2);
    }

    private void hitChokes() {
        promise("5 hit, groups");
        full(3);
        x.like(0, 1, 0, 60);
        x.like(1, 1, 0, 60);
        x.like(2, 0, 0, 60);
        due("its own note is not choked", x.hit(0, 5), 3);
        counted(CHOKED, 0);
        counted(SOUNDING, 3);
        due("hit", x.hit(0, 6), 3);
        counted(CHOKED, 2);
        counted(SOUNDING, 4);
        voiceIs(0, 0, 2);
        voiceIs(1, 0, 0);
        x.like(2, 2, 0, 60);
        x.hit(3, 3);
        counted(CHOKED, 6);
        counted(SOUNDING, 3);
    }

    private void hitChokesBeforeItSteals() {
        promise("5 hit, choked before stolen");
        full(1);
        x.zone(1, 1, 1, 9);
        x.like(1, 3, 0, 60);
        x.set(ZoneSampler.VOICES, 2);
        x.hit(1, 5);
        due("hit", x.hit(1, 5), 2);
        counted(CHOKED, 1);
        counted(STOLEN, 1);
        voiceIs(0, 0, 0);
        voiceIs(1, 0, 1);
    }

    private void hitTakesTurns() {
        promise("5 hit, robins");
        full(4);
        x.zone(0, 0, 1, 9);
        x.like(0, 0, 2, 60);
        x.like(2, 0, 2, 60);
        x.like(4, 0, 2, 60);
        x.like(3, 0, 4, 60);
        int[] due = {0, 2, 4, 0};
        for (int turn = 0; turn < due.length; turn++) {
            due("first zone of turn " + turn, x.hit(0, 1), 3);
            int voices = x.count(SOUNDING);
            int[] three = {x.voice(voices - 3, 0), x.voice(voices - 2, 0), x.voice(voices - 1, 0)};
            int robin = three[0] != 1 ? three[0] : three[1] != 3 ? three[1] : three[2];
            due("robin of turn " + turn, robin, due[turn]);
            x.silence();
        }
        counted(16, 0);
        counted(17, 4);
        counted(18, 0);
        counted(19, 4);
        x.hit(7, 1);
        voiceIs(0, 0, 0);
        counted(17, 5);
        x.hit(7, 1);
        due("two of three answer, 5 modulo 2", x.voice(4, 0), 2);
        x.takeZone(0);
        x.takeZone(1);
        x.hit(8, 1);
        counted(17, 6);
    }

    private void hitSteals() {
        promise("5 hit, stealing");
        full(1);
        x.set(ZoneSampler.VOICES, 3);
        x.hit(0, 5);
        x.pass(1);
        x.hit(1, 1);
        x.hit(2, 9);
        x.hit(3, 9);
        voiceIs(0, 1, 1);
        x.set(ZoneSampler.STEAL, 1);
        x.hit(4, 9);
        voiceIs(0, 1, 2);
        x.hit(5, 9);
        voiceIs(0, 1, 3);
        x.set(ZoneSampler.STEAL, 2);
        x.pedal();
        x.letGo(4);
        x.hit(6, 9);
        voiceIs(0, 1, 3);
        voiceIs(1, 1, 5);
        x.hit(5, 9);
        voiceIs(0, 1, 3);
        voiceIs(1, 1, 6);
        voiceIs(2, 1, 5);
        x.hit(7, 9);
        voiceIs(0, 1, 6);
        counted(STOLEN, 6);
    }

    private void hitStealsItsOwn() {
        promise("5 hit, voices of the same note are stolen");
        full(10);
        x.set(ZoneSampler.VOICES, 8);
        due("hit", x.hit(0, 1), 10);
        counted(STOLEN, 2);
        voiceIs(0, 0, 2);
        x.set(ZoneSampler.VOICES, 1);
        counted(STOLEN, 9);
        voiceIs(0, 0, 9);
        due("hit", x.hit(0, 1), 10);
        counted(STOLEN, 19);
        counted(BEGAN, 20);
    }

    private void promise6() {
        promise("6 letGo");
        full(2);
        x.hit(0, 5);
        x.hit(35, 5);
        due("letGo", x.letGo(0), 2);
        voiceIs(0, 5, 2);
        voiceIs(2, 5, 0);
        due("again", x.letGo(0), 0);
        x.pedal();
        due("letGo with the pedal", x.letGo(35), 2);
        voiceIs(0, 5, 2);
        voiceIs(2, 5, 1);
        due("again", x.letGo(35), 0);
        voiceIs(3, 5, 1);
        due("key -1", x.letGo(-1), BAD);
        due("key 36", x.letGo(36), BAD);
        for (int far : FAR) {
            due("key far", x.letGo(far), BAD);
        }
        x.undo();
        voiceIs(2, 5, 1);
        x.undo();
        voiceIs(2, 5, 0);
    }

    private void promise7() {
        promise("7 pedal");
        full(2);
        due("down", x.pedal(), 0);
        counted(PEDAL, 1);
        x.hit(3, 9);
        x.hit(4, 9);
        x.letGo(3);
        due("up", x.pedal(), 2);
        counted(PEDAL, 0);
        counted(FREE, 2);
        counted(HELD, 2);
        due("down", x.pedal(), 0);
        due("up", x.pedal(), 0);
        counted(FREE, 2);
    }

    private void promise8() {
        promise("8 pass");
        full(1);
        x.hit(0, 2);
        due("pass", x.pass(19), 0);
        voiceIs(0, 3, 1);
        voiceIs(0, 4, 19);
        due("pass", x.pass(1), 1);
        counted(ENDED, 1);
        counted(TICKS, 20);
        x.hit(0, 9);
        x.letGo(0);
        due("let go", x.pass(8), 0);
        voiceIs(0, 3, 10);
        due("let go", x.pass(1), 1);
        x.set(ZoneSampler.FADE, 7);
        x.pedal();
        x.hit(0, 9);
        x.letGo(0);
        x.pass(1);
        voiceIs(0, 3, 89);
        x.pedal();
        x.pass(1);
        voiceIs(0, 3, 82);
        x.pass(99);
        counted(TICKS, 130);
        due("ticks 0", x.pass(0), BAD);
        due("ticks 100", x.pass(100), BAD);
        for (int far : FAR) {
            due("ticks far", x.pass(far), BAD);
        }
        counted(TICKS, 130);
        unchanged(4);
    }

    private void passToTheLength() {
        promise("8 pass, lengths");
        full(2);
        x.like(0, 0, 0, 3);
        x.hit(0, 9);
        due("pass", x.pass(2), 0);
        due("the length is reached", x.pass(1), 1);
        voiceIs(0, 0, 1);
        due("pass", x.pass(56), 0);
        due("60 ticks", x.pass(1), 1);
        x.hit(0, 1);
        due("pass", x.pass(99), 2);
    }

    private void promise9() {
        promise("9 silence");
        full(2);
        due("none", x.silence(), 0);
        unchanged(3);
        x.hit(0, 9);
        x.pedal();
        due("silence", x.silence(), 2);
        counted(SOUNDING, 0);
        counted(STOPPED, 2);
        counted(ENDED, 0);
        counted(PEDAL, 1);
        counted(ZONES, 2);
        x.hit(0, 9);
        x.pass(4);
        x.letGo(0);
        x.silence();
        x.hit(0, 9);
        voiceIs(0, 4, 0);
        voiceIs(1, 5, 0);
    }

    private void promise10() {
        promise("10 set");
        due("VOICES", x.set(ZoneSampler.VOICES, 8), 6);
        due("VOICES", x.set(ZoneSampler.VOICES, 1), 8);
        due("STEAL", x.set(ZoneSampler.STEAL, 2), 0);
        due("STEAL", x.set(ZoneSampler.STEAL, 0), 2);
        due("FADE", x.set(ZoneSampler.FADE, 50), 10);
        due("FADE", x.set(ZoneSampler.FADE, 1), 50);
        counted(13, 1);
        counted(14, 0);
        counted(15, 1);
        int[][] wrong = {{-1, 1}, {3, 1}, {0, 0}, {0, 9}, {1, -1}, {1, 3}, {2, 0}, {2, 51}};
        for (int[] w : wrong) {
            due("set(" + w[0] + ", " + w[1] + ")", x.set(w[0], w[1]), BAD);
        }
        for (int far : FAR) {
            due("what far", x.set(far, 1), BAD);
            due("value far", x.set(0, far), BAD);
        }
        x.undo();
        counted(15, 50);
    }

    private void setStealsVoices() {
        promise("10 set, voices are stolen");
        full(6);
        x.hit(0, 3);
        due("VOICES", x.set(ZoneSampler.VOICES, 6), 6);
        counted(SOUNDING, 6);
        x.set(ZoneSampler.VOICES, 4);
        counted(SOUNDING, 4);
        counted(STOLEN, 2);
        voiceIs(0, 0, 2);
        x.set(ZoneSampler.VOICES, 8);
        x.hit(1, 1);
        counted(SOUNDING, 8);
        counted(STOLEN, 4);
        x.set(ZoneSampler.STEAL, 1);
        counted(SOUNDING, 8);
        x.set(ZoneSampler.VOICES, 2);
        voiceIs(0, 2, 3);
        voiceIs(1, 2, 3);
        voiceIs(0, 0, 4);
    }

    private void promise11() {
        promise("11 append");
        due("32", x.append(32), BAD);
        due("127", x.append(127), BAD);
        for (int far : FAR) {
            due("far", x.append(far == 100 || far == 1000 ? 65536 + 48 : far), BAD);
        }
        counted(PAD, 0);
        for (int i = 1; i <= 60; i++) {
            due("append", x.append(i % 2 == 0 ? 33 : 126), i);
        }
        due("the 61st", x.append(48), FULL);
        due("the 61st, wrong", x.append(32), BAD);
        counted(PAD, 60);
        unchanged(0);
    }

    private void promise12() {
        promise("12 clear");
        due("empty", x.clear(), 0);
        pad("p;p");
        due("clear", x.clear(), 3);
        counted(PAD, 0);
        due("fault", x.fault(1), 0);
        due("append", x.append('p'), 1);
        due("fault", x.fault(1), NONE);
        unchanged(0);
    }

    private void faultOfZones() {
        promise("13 fault, zones");
        faultIs(0, "", 0);
        faultIs(0, "0-35,1-9,60", NONE);
        faultIs(0, "35-35,9-9,1g3r4;0-0,1-1,1r1;1-2,3-4,5g1", NONE);
        faultIs(0, "0", 1);
        faultIs(0, "00-1", 1);
        faultIs(0, "01", 1);
        faultIs(0, "36", 1);
        faultIs(0, "35", 2);
        faultIs(0, "40", 1);
        faultIs(0, "100", 2);
        faultIs(0, "-", 0);
        faultIs(0, "9-1", 3);
        faultIs(0, "9-1,", 3);
        faultIs(0, "9-4", 2);
        faultIs(0, "9-0", 2);
        faultIs(0, "9-36", 3);
        faultIs(0, "4", 1);
        faultIs(0, "4-", 2);
        faultIs(0, "4-5", 3);
        faultIs(0, "4-5,", 4);
        faultIs(0, "4-5,5", 5);
        faultIs(0, "4-5,5-", 6);
        faultIs(0, "4-5,5-5", 7);
        faultIs(0, "19-1,", 4);
        faultIs(0, "19-19,1-1,1", NONE);
        faultIs(0, "20-1", 3);
        faultIs(0, "29-2,", 4);
        faultIs(0, "29-29,1-1,1", NONE);
        faultIs(0, "30-2", 3);
        faultIs(0, "25-2,", 4);
        faultIs(0, "25-1", 3);
        faultIs(0, "25-24", 4);
        faultIs(0, "25-3,", 4);
        faultIs(0, "25-30,", 6);
        faultIs(0, "35-34", 4);
        faultIs(0, "4-5,0", 4);
        faultIs(0, "4-5,12", 5);
        faultIs(0, "4-5,5-4", 6);
        faultIs(0, "4-5,5-55", 7);
        faultIs(0, "4-5,5-5,0", 8);
        faultIs(0, "4-5,5-5,", 8);
        faultIs(0, "4-5,5-5,61", 9);
        faultIs(0, "4-5,5-5,70", 9);
        faultIs(0, "4-5,5-5,600", 10);
        faultIs(0, "4-5,5-5,6g", 10);
        faultIs(0, "4-5,5-5,6g0", 10);
        faultIs(0, "4-5,5-5,6g4", 10);
        faultIs(0, "4-5,5-5,6g11", 11);
        faultIs(0, "4-5,5-5,6r", 10);
        faultIs(0, "4-5,5-5,6r0", 10);
        faultIs(0, "4-5,5-5,6r5", 10);
        faultIs(0, "4-5,5-5,6r4g1", 11);
        faultIs(0, "4-5,5-5,6g1g1", 11);
        faultIs(0, "4-5,5-5,6;", 10);
        faultIs(0, "4-5,5-5,6;;", 10);
        faultIs(0, "4-5,5-5,6,", 9);
        faultIs(0, "4-5,5-5,6;3-2", 13);
        faultIs(0, "0-0,1-1,1;0-0,1-1,1;0-0,1-1,1;0-0,1-1,1;0-0,1-1,1;0-0,1-1,1", NONE);
        faultIs(0, "0-0,1-1,1;0-0,1-1,1;0-0,1-1,1;0-0,1-1,1;0-0,1-1,1;0-0,1-1,1;", 60);
    }

    private void faultOfScores() {
        promise("13 fault, scores");
        faultIs(1, "", 0);
        faultIs(1, "n0.1;n35.9;o0;o35;p;t1;t99", NONE);
        faultIs(1, "n", 1);
        faultIs(1, "n3", 2);
        faultIs(1, "n36", 2);
        faultIs(1, "n4.", 3);
        faultIs(1, "n4.0", 3);
        faultIs(1, "n4.10", 4);
        faultIs(1, "n04", 2);
        faultIs(1, "n,4", 1);
        faultIs(1, "o", 1);
        faultIs(1, "o36", 2);
        faultIs(1, "o350", 3);
        faultIs(1, "o5.", 2);
        faultIs(1, "p1", 1);
        faultIs(1, "pp", 1);
        faultIs(1, "t", 1);
        faultIs(1, "t0", 1);
        faultIs(1, "t100", 3);
        faultIs(1, "t9", NONE);
        faultIs(1, "x", 0);
        faultIs(1, ";", 0);
        faultIs(1, "p;", 2);
        faultIs(1, "p;;", 2);
        faultIs(1, "p;0-1", 2);
        faultIs(1, "p;t5;o8;x", 8);
        faultIs(1, "P", 0);
        due("way -1", x.fault(-1), BAD);
        due("way 2", x.fault(2), BAD);
        for (int far : FAR) {
            due("way far", x.fault(far), BAD);
        }
        counted(PAD, 1);
        unchanged(0);
    }

    private void promise14() {
        promise("14 load");
        due("empty", x.load(), NOT_NOW);
        x.zone(0, 0, 1, 1);
        pad("2-34,3-7,59g2r3;5-5,4-4,1");
        due("load", x.load(), 3);
        counted(PAD, 0);
        int[] first = {2, 34, 3, 7, 2, 3, 59, 0, 1};
        int[] second = {5, 5, 4, 4, 0, 0, 1, 0, 1};
        for (int what = 0; what <= 8; what++) {
            due("zoneOf(1, " + what + ")", x.zoneOf(1, what), first[what]);
            due("zoneOf(2, " + what + ")", x.zoneOf(2, what), second[what]);
        }
        unchanged(2);
        pad("2-34,3-7,59;");
        due("a fault", x.load(), NOT_NOW);
        counted(PAD, 12);
        full(6);
        pad("0-0,1-1,1;0-0,1-1,1");
        due("one too many", x.load(), FULL);
        counted(PAD, 19);
        counted(ZONES, 9);
        pad("0-0,1-1,1");
        due("the tenth", x.load(), 10);
        pad("0-0,1-1,1;0");
        due("a fault rather than the limit", x.load(), NOT_NOW);
        due("undo leaves the pad", x.undo(), 3);
        counted(ZONES, 9);
        counted(PAD, 11);
    }

    private void promise15() {
        promise("15 play");
        full(2);
        due("empty", x.play(), NOT_NOW);
        pad("n3.9;p;o3;t5;n3.8;t99;n7.1;o7;t1;p");
        due("play", x.play(), 6);
        counted(PAD, 0);
        unchanged(3);
        counted(TICKS, 105);
        counted(BEGAN, 6);
        counted(ENDED, 4);
        counted(SOUNDING, 2);
        counted(FREE, 2);
        counted(PEDAL, 0);
        counted(LOUD, 18);
        due("undo", x.undo(), 2);
        counted(BEGAN, 0);
        pad("n3.9;q");
        due("a fault", x.play(), NOT_NOW);
        counted(PAD, 6);
        unchanged(2);
        pad("p");
        due("no voice begins", x.play(), 0);
        counted(PEDAL, 1);
        pad("n7.2;n35.3;o7");
        due("play", x.play(), 4);
        voiceIs(0, 1, 7);
        voiceIs(0, 2, 2);
        voiceIs(0, 5, 1);
        voiceIs(2, 1, 35);
        voiceIs(2, 2, 3);
        voiceIs(2, 5, 0);
    }

    private void promise16() {
        promise("16 zoneOf");
        x.zone(1, 2, 3, 4);
        x.zone(0, 35, 1, 9);
        x.like(0, 1, 2, 3);
        int[] due = {1, 2, 3, 4, 1, 2, 3};
        for (int what = 0; what < due.length; what++) {
            due("zoneOf(0, " + what + ")", x.zoneOf(0, what), due[what]);
        }
        x.hit(1, 3);
        x.hit(2, 9);
        due("voices", x.zoneOf(0, 7), 1);
        due("voices", x.zoneOf(1, 7), 2);
        due("what -1", x.zoneOf(0, -1), BAD);
        due("what 9", x.zoneOf(0, 9), BAD);
        due("zone -1", x.zoneOf(-1, 0), BAD);
        due("zone 2", x.zoneOf(2, 0), BAD);
        for (int far : FAR) {
            due("zone far", x.zoneOf(far, 0), BAD);
            due("what far", x.zoneOf(0, far), BAD);
        }
    }

    private void zonesThatCanSound() {
        promise("16 zoneOf, what 8");
        x.zone(0, 5, 1, 9);
        x.zone(4, 9, 1, 9);
        x.zone(5, 5, 1, 1);
        for (int zone = 0; zone < 3; zone++) {
            x.like(zone, 0, 1, 60);
        }
        due("alone on keys below", x.zoneOf(0, 8), 1);
        due("alone on keys above", x.zoneOf(1, 8), 1);
        due("the turn is another one's", x.zoneOf(2, 8), 0);
        x.hit(0, 1);
        x.hit(0, 1);
        due("its turn", x.zoneOf(2, 8), 1);
        x.hit(0, 1);
        due("its turn is over", x.zoneOf(2, 8), 0);
        x.like(2, 0, 2, 60);
        due("a robin of its own", x.zoneOf(2, 8), 1);
        x.like(2, 0, 0, 60);
        due("no robin", x.zoneOf(2, 8), 1);
    }

    private void promise17() {
        promise("17 voice");
        x.zone(0, 35, 1, 9);
        x.zone(20, 20, 1, 9);
        x.hit(4, 7);
        x.pass(3);
        x.hit(20, 2);
        int[][] due = {{0, 4, 7, 67, 3, 0, 0}, {0, 20, 2, 20, 0, 0, 1}, {1, 20, 2, 20, 0, 0, 2}};
        for (int voice = 0; voice < 3; voice++) {
            for (int what = 0; what <= 6; what++) {
                voiceIs(voice, what, due[voice][what]);
            }
        }
        x.set(ZoneSampler.STEAL, 1);
        voiceIs(0, 6, 2);
        voiceIs(1, 6, 0);
        voiceIs(2, 6, 1);
        x.set(ZoneSampler.STEAL, 2);
        voiceIs(0, 6, 0);
        x.pedal();
        x.letGo(20);
        voiceIs(0, 6, 2);
        voiceIs(1, 6, 0);
        voiceIs(1, 5, 1);
        x.hit(4, 1);
        voiceIs(0, 6, 0);
        voiceIs(0, 5, 2);
        voiceIs(1, 6, 1);
        voiceIs(3, 6, 3);
        due("voice -1", x.voice(-1, 0), BAD);
        due("voice 4", x.voice(4, 0), BAD);
        due("what -1", x.voice(0, -1), BAD);
        due("what 7", x.voice(0, 7), BAD);
        for (int far : FAR) {
            due("voice far", x.voice(far, 0), BAD);
            due("what far", x.voice(0, far), BAD);
        }
    }

    private void promise18() {
        promise("18 answers");
        due("none", x.answers(0, 1), 0);
        x.zone(3, 8, 2, 5);
        x.zone(3, 3, 1, 9);
        x.like(0, 0, 1, 60);
        x.like(1, 0, 1, 60);
        due("both of the robin", x.answers(3, 2), 2);
        due("one", x.answers(8, 5), 1);
        due("above", x.answers(9, 5), 0);
        due("below", x.answers(2, 5), 0);
        due("harder", x.answers(3, 6), 1);
        due("key -1", x.answers(-1, 1), BAD);
        due("key 36", x.answers(36, 1), BAD);
        due("force 0", x.answers(0, 0), BAD);
        due("force 10", x.answers(0, 10), BAD);
        for (int far : FAR) {
            due("key far", x.answers(far, 1), BAD);
            due("force far", x.answers(0, far), BAD);
        }
        unchanged(4);
    }

    private void mapIs(int holes, int overlaps, int deepest, int firstHole) {
        int[] due = {holes, overlaps, deepest, firstHole};
        for (int what = 0; what < 4; what++) {
            for (int way = 0; way < 2; way++) {
                due("map(" + what + ", " + way + ")", x.map(what, way), due[what]);
            }
        }
    }

    private void promise19() {
        promise("19 map");
        mapIs(324, 0, 0, 0);
        x.zone(0, 35, 1, 8);
        mapIs(36, 0, 1, 0);
        x.zone(0, 34, 9, 9);
        mapIs(1, 0, 1, 35);
        x.zone(35, 35, 8, 9);
        mapIs(0, 1, 2, NONE);
        x.zone(35, 35, 1, 9);
        mapIs(0, 9, 3, NONE);
        x.takeZone(0);
        mapIs(8 * 35, 2, 2, 0);
        due("what -1", x.map(-1, 0), BAD);
        due("what 4", x.map(4, 0), BAD);
        due("way -1", x.map(0, -1), BAD);
        due("way 2", x.map(0, 2), BAD);
        for (int far : FAR) {
            due("what far", x.map(far, 0), BAD);
            due("way far", x.map(0, far), BAD);
        }
    }

    private void promise20() {
        promise("20 count");
        full(2);
        x.like(1, 0, 3, 60);
        x.set(ZoneSampler.VOICES, 3);
        x.set(ZoneSampler.FADE, 11);
        x.hit(1, 4);
        x.hit(2, 5);
        x.pedal();
        x.letGo(2);
        x.pass(1);
        x.hit(3, 1);
        pad("t1");
        int[] due = {2, 3, 2, 1, 0, 49 + 10 + 10, 1, 1, 6, 0, 0, 3, 0, 3, 0, 11, 0, 0, 3, 0, 2, 4};
        for (int what = 0; what < due.length; what++) {
            counted(what, due[what]);
        }
        x.pass(20);
        x.silence();
        counted(ENDED, 2);
        counted(STOPPED, 1);
        counted(-1, BAD);
        counted(22, BAD);
        for (int far : FAR) {
            counted(far, BAD);
        }
    }

    private void promise21() {
        promise("21 loudness");
        check.same("loudness", x.loudness(), 0.0);
        full(1);
        x.hit(0, 1);
        check.same("loudness", x.loudness(), 10.0);
        x.hit(1, 2);
        x.hit(2, 2);
        check.same("loudness", x.loudness(), 50 / 3.0);
        x.pass(10);
        check.same("loudness", x.loudness(), 10.0);
        x.silence();
        check.same("loudness", x.loudness(), 0.0);
    }

    private void promise22() {
        promise("22 ifHit");
        x.zone(0, 9, 1, 9);
        x.zone(5, 9, 1, 9);
        x.zone(5, 9, 1, 9);
        x.like(0, 1, 0, 60);
        x.like(1, 0, 1, 60);
        x.like(2, 0, 1, 60);
        x.set(ZoneSampler.VOICES, 2);
        int[][] before = {{0, 1}, {1, 0}, {2, 0}, {3, NONE}, {4, 0}};
        for (int[] b : before) {
            due("of a silent sampler, what " + b[0], x.ifHit(b[0] == 0 ? 4 : 20, 5, b[0]), b[1]);
        }
        x.hit(9, 9);
        x.hit(8, 8);
        int[] due = {2, 1, 1, 0, 2};
        for (int what = 0; what < due.length; what++) {
            due("what " + what, x.ifHit(7, 7, what), due[what]);
        }
        due("the one with the turn", x.hit(7, 7), 2);
        x.takeZone(0);
        due("first by the turn", x.ifHit(6, 6, 3), 1);
        due("nothing was changed", x.count(17 - 1), 3);
        counted(SOUNDING, 1);
        due("key -1", x.ifHit(-1, 5, 0), BAD);
        due("key 36", x.ifHit(36, 5, 0), BAD);
        due("force 0", x.ifHit(5, 0, 0), BAD);
        due("force 10", x.ifHit(5, 10, 0), BAD);
        due("what -1", x.ifHit(5, 5, -1), BAD);
        due("what 5", x.ifHit(5, 5, 5), BAD);
        for (int far : FAR) {
            due("key far", x.ifHit(far, 5, 3), BAD);
            due("what far", x.ifHit(5, 5, far), BAD);
        }
        unchanged(4);
    }

    private void firstQuestion() {
        promise("22 ifHit, as the first question");
        full(3);
        x.like(2, 1, 0, 60);
        x.hit(5, 5);
        int[] due = {3, 1, 0, 0, 5};
        for (int what = 4; what >= 0; what--) {
            due("what " + what, x.ifHit(6, 6, what), due[what]);
        }
        ZoneSampler other = new ZoneSampler();
        other.zone(0, 35, 1, 9);
        other.like(0, 3, 0, 60);
        other.hit(1, 1);
        due("choked", other.ifHit(1, 1, 1), 1);
    }

    private void promise23() {
        promise("23 silentIn");
        due("silent", x.silentIn(), 0);
        full(1);
        x.hit(0, 2);
        due("by loudness", x.silentIn(), 20);
        x.hit(1, 9);
        due("by length", x.silentIn(), 60);
        x.pass(7);
        due("later", x.silentIn(), 53);
        x.letGo(1);
        due("83 by 10s, or 13 of the held one", x.silentIn(), 13);
        x.letGo(0);
        due("83 by 10s", x.silentIn(), 9);
        x.set(ZoneSampler.FADE, 50);
        due("83 by 50s", x.silentIn(), 2);
        due("it is not so before", x.pass(1), 1);
        due("but then", x.pass(1), 1);
        x.hit(0, 9);
        x.pedal();
        x.letGo(0);
        due("hung", x.silentIn(), 60);
        x.like(0, 0, 0, 20);
        due("shorter", x.silentIn(), 20);
    }

    private void promise24() {
        promise("24 chord");
        x.zone(0, 6, 1, 9);
        x.zone(6, 11, 5, 9);
        x.zone(35, 35, 9, 9);
        x.zone(5, 6, 1, 9);
        x.like(0, 1, 1, 60);
        x.like(1, 1, 1, 60);
        due("the lowest key", x.chord(1, 0, 1), 1);
        due("the highest key", x.chord(32, 5, 9), 1);
        due("all of octave 0", x.chord(63, 0, 1), 7);
        due("all of octave 1", x.chord(63, 1, 5), 7);
        due("softly", x.chord(63, 1, 4), 2);
        due("bits 1 and 5", x.chord(34, 0, 4), 3);
        x.set(ZoneSampler.VOICES, 1);
        due("choked and stolen ones too", x.chord(63, 1, 5), 7);
        due("keys 0", x.chord(0, 0, 1), BAD);
        due("keys 64", x.chord(64, 0, 1), BAD);
        due("octave -1", x.chord(1, -1, 1), BAD);
        due("octave 6", x.chord(1, 6, 1), BAD);
        due("force 0", x.chord(1, 0, 0), BAD);
        due("force 10", x.chord(1, 0, 10), BAD);
        for (int far : FAR) {
            due("keys far", x.chord(far, 0, 1), BAD);
            due("octave far", x.chord(1, far, 1), BAD);
            due("force far", x.chord(1, 0, far), BAD);
        }
        counted(16, 0);
        counted(SOUNDING, 0);
        unchanged(4);
    }

    private void promise25() {
        promise("25 undo");
        due("none", x.undo(), NOT_NOW);
        full(6);
        unchanged(4);
        for (int left = 3; left >= 0; left--) {
            due("undo", x.undo(), left);
            counted(ZONES, 2 + left);
        }
        due("none", x.undo(), NOT_NOW);
        x.like(0, 1, 1, 5);
        x.hit(0, 9);
        x.pass(3);
        x.pedal();
        pad("abc");
        x.save();
        due("undo", x.undo(), 3);
        counted(PEDAL, 0);
        counted(TICKS, 3);
        due("undo", x.undo(), 2);
        counted(TICKS, 0);
        voiceIs(0, 3, 90);
        counted(16, 1);
        due("undo", x.undo(), 1);
        counted(16, 0);
        counted(BEGAN, 0);
        counted(SOUNDING, 0);
        due("undo", x.undo(), 0);
        due("length", x.zoneOf(0, 6), 60);
        counted(PAD, 3);
        due("the snapshot is still there", x.restore(), 2);
        counted(PEDAL, 1);
    }

    private void eachChangeIsRecorded() {
        promise("25 undo, which calls are changes");
        x.silence();
        unchanged(1);
        x.pedal();
        unchanged(2);
        x.pass(1);
        unchanged(3);
        x.letGo(0);
        unchanged(4);
        x.save();
        x.clear();
        x.append('p');
        x.fault(0);
        x.silentIn();
        x.chord(1, 0, 1);
        x.ifHit(0, 1, 0);
        due("undo", x.undo(), 3);
        due("undo", x.undo(), 2);
        due("undo", x.undo(), 1);
        counted(PEDAL, 0);
        x.set(0, 6);
        unchanged(2);
        x.restore();
        unchanged(3);
        counted(PEDAL, 1);
        x.play();
        unchanged(4);
        x.undo();
        x.undo();
        counted(PEDAL, 0);
        unchanged(2);
        pad("0-0,1-1,1");
        x.load();
        unchanged(3);
        x.takeZone(0);
        unchanged(4);
        x.undo();
        x.undo();
        counted(ZONES, 0);
    }

    private void promise26() {
        promise("26 save");
        full(2);
        due("save", x.save(), 0);
        x.hit(0, 9);
        unchanged(3);
        due("save", x.save(), 2);
        unchanged(3);
        x.hit(0, 9);
        due("the later one", x.restore(), 2);
        counted(BEGAN, 2);
    }

    private void promise27() {
        promise("27 restore");
        due("none", x.restore(), NOT_NOW);
        unchanged(0);
        x.zone(0, 35, 1, 9);
        x.like(0, 2, 3, 40);
        x.set(ZoneSampler.FADE, 5);
        x.set(ZoneSampler.STEAL, 2);
        x.pedal();
        x.hit(0, 9);
        x.hit(1, 8);
        x.pass(2);
        x.save();
        pad("xyz");
        x.pedal();
        x.set(ZoneSampler.FADE, 6);
        x.zone(0, 0, 1, 1);
        x.like(0, 0, 0, 60);
        x.silence();
        due("restore", x.restore(), 1);
        int[] due = {1, 1, 1, 0, 0, 78, 1, 2, 2, 0, 1, 0, 0, 6, 2, 5, 0, 0, 2, 0, 3, 4};
        for (int what = 0; what < due.length; what++) {
            counted(what, due[what]);
        }
        due("group", x.zoneOf(0, 4), 2);
        due("length", x.zoneOf(0, 6), 40);
        x.takeZone(0);
        due("it stays", x.restore(), 1);
        counted(ZONES, 1);
        due("it is a change", x.undo(), 3);
        counted(ZONES, 0);
        x.restore();
        due("a choke of a restored voice", x.ifHit(2, 2, 1), 1);
    }

    private void run() {
        constants();
        promise1();
        promise2();
        promise3();
        likeWhileItSounds();
        promise4();
        promise5();
        hitAgain();
        hitChokes();
        hitChokesBeforeItSteals();
        hitTakesTurns();
        hitSteals();
        hitStealsItsOwn();
        promise6();
        promise7();
        promise8();
        passToTheLength();
        promise9();
        promise10();
        setStealsVoices();
        promise11();
        promise12();
        faultOfZones();
        faultOfScores();
        promise14();
        promise15();
        promise16();
        zonesThatCanSound();
        promise17();
        promise18();
        promise19();
        promise20();
        promise21();
        promise22();
        firstQuestion();
        promise23();
        promise24();
        promise25();
        eachChangeIsRecorded();
        promise26();
        promise27();
        check.end();
    }

    public static void main(String[] args) {
        new PromiseTest().run();
    }
}
