/** The boundary sentences of the document on changes, the history, the snapshot, and on errors. */
final class ChangeEdgesTest extends Edges {
    private static final Setup NEW = s -> { };

    private void emptyHistory() {
        sentence("undo: NOT_POSSIBLE if it has none");
        counted(STATES, 0);
        refused("undo of a new sampler", NEW, ZoneSampler::undo, NOT_NOW);
        refused("undo with a snapshot and a pad", ChangeEdgesTest::savedAndPadded, ZoneSampler::undo, NOT_NOW);
        wideZones(1);
        due("undo", x.undo(), 0);
        due("undo once more", x.undo(), NOT_NOW);
        counted(ZONES, 0);
    }

    private static void savedAndPadded(ZoneSampler s) {
        s.save();
        write(s, "n1.2;p");
    }

    private void fourStates() {
        sentence("A history of at most 4 states is kept; if there are 5 states then, the oldest one is dropped.");
        for (int changes = 1; changes <= 4; changes++) {
            x.zone(changes, 35, 1, 9);
            counted(STATES, changes);
        }
        x.undo();
        x.undo();
        x.undo();
        due("the first of four", x.undo(), 0);
        counted(ZONES, 0);
        for (int changes = 5; changes <= 10; changes++) {
            anew();
            for (int i = 0; i < changes; i++) {
                x.zone(i, 35, 1, 9);
            }
            counted(STATES, 4);
            for (int left = 3; left >= 0; left--) {
                due("undo", x.undo(), left);
                counted(STATES, left);
                counted(ZONES, changes - 4 + left);
            }
            due("the oldest ones are dropped", x.undo(), NOT_NOW);
            counted(ZONES, changes - 4);
        }
    }

    private void undoneAndChanged() {
        sentence("A history of at most 4 states: filled again behind an undo");
        for (int i = 0; i < 6; i++) {
            x.pass(1);
        }
        x.undo();
        x.undo();
        counted(TICKS, 4);
        x.pass(10);
        counted(STATES, 3);
        x.pass(20);
        counted(STATES, 4);
        x.pass(30);
        counted(STATES, 4);
        counted(TICKS, 64);
        int[] ticks = {34, 14, 4, 3};
        for (int i = 0; i < 4; i++) {
            due("undo", x.undo(), 3 - i);
            counted(TICKS, ticks[i]);
        }
        due("undo", x.undo(), NOT_NOW);
    }

    private void recorded(String what, Setup before, Call change) {
        ZoneSampler s = new ZoneSampler();
        before.on(s);
        int states = s.count(STATES);
        String heart = heart(s);
        check.yes(what + " returns no error", change.on(s) >= 0);
        due(what + " is recorded", s.count(STATES), Math.min(4, states + 1));
        due(what + " is undone", s.undo(), Math.min(3, states));
        check.same(what + " leaves all as it was, when it is undone", heart(s), heart);
    }

    private static void sounding(ZoneSampler s) {
        wide(s, 1);
        s.like(0, 1, 1, 30);
        s.hit(0, 9);
    }

    private void changes() {
        sentence("The changes are the calls of zone, like, takeZone, hit, letGo, pedal, pass, silence, set, load, play and restore");
        Setup[] pasts = {s -> wide(s, 1), ChangeEdgesTest::sounding, Edges::busyScore};
        for (Setup past : pasts) {
            recorded("zone", past, s -> s.zone(0, 0, 1, 1));
            recorded("like", past, s -> s.like(0, 3, 4, 1));
            recorded("takeZone", past, s -> s.takeZone(0));
            recorded("hit", past, s -> s.hit(4, 4));
            recorded("letGo", past, s -> s.letGo(0));
            recorded("pedal", past, ZoneSampler::pedal);
            recorded("pass", past, s -> s.pass(1));
            recorded("pass of 99", past, s -> s.pass(99));
            recorded("silence", past, ZoneSampler::silence);
            recorded("set VOICES", past, s -> s.set(VOICES, 1));
            recorded("set STEAL", past, s -> s.set(STEAL, 1));
            recorded("set FADE", past, s -> s.set(FADE, 50));
            recorded("load", s -> padded(s, past, "0-0,1-1,1g1r1"), ZoneSampler::load);
            recorded("play", s -> padded(s, past, "n0.9;p;o0;t9;n1.1"), ZoneSampler::play);
            recorded("restore", s -> savedBefore(s, past), ZoneSampler::restore);
        }
    }

    private static void padded(ZoneSampler s, Setup past, String text) {
        past.on(s);
        write(s, text);
    }

    private static void savedBefore(ZoneSampler s, Setup past) {
        s.save();
        past.on(s);
    }

    private void changesOfNothing() {
        sentence("each change records everything before it (also if nothing is different then)");
        Setup quiet = s -> wide(s, 1);
        recorded("like, the same", quiet, s -> s.like(0, 0, 0, 60));
        recorded("hit that no zone answers", NEW, s -> s.hit(0, 1));
        recorded("letGo of a key that is up", NEW, s -> s.letGo(0));
        recorded("silence without voices", NEW, ZoneSampler::silence);
        recorded("set to the same", NEW, s -> s.set(VOICES, 6));
        recorded("restore of the same", ZoneSampler::save, ZoneSampler::restore);
        recorded("play of no voice", s -> write(s, "p;p"), ZoneSampler::play);
        x.save();
        x.restore();
        x.silence();
        x.letGo(0);
        x.hit(0, 1);
        counted(STATES, 4);
        x.set(FADE, 10);
        counted(STATES, 4);
    }

    private void playIsOneChange() {
        sentence("play: This is one change.");
        wideZones(1);
        pad(times("n0.9;t1;", 7) + "p");
        due("play", x.play(), 7);
        counted(STATES, 2);
        due("undo", x.undo(), 1);
        counted(BEGAN, 0);
        counted(TICKS, 0);
        counted(PEDAL, 0);
        counted(SOUNDING, 0);
        pad("0-0,1-1,1;1-1,1-1,1;2-2,1-1,1");
        x.load();
        counted(STATES, 2);
        x.undo();
        counted(ZONES, 1);
    }

    private void leaves(String what, Call call) {
        Setup[] pasts = {NEW, ChangeEdgesTest::sounding, Edges::busyScore, Edges::busyZones};
        for (Setup past : pasts) {
            leavesAll(what, past, call);
        }
    }

    private void looksChangeNothing() {
        sentence("looks; nothing is changed");
        leaves("fault 0", s -> s.fault(0));
        leaves("fault 1", s -> s.fault(1));
        leaves("zoneOf", s -> s.zoneOf(0, 7) + s.zoneOf(0, 8));
        leaves("voice", s -> s.voice(0, 5) + s.voice(0, 6));
        leaves("answers", s -> s.answers(3, 3));
        leaves("map", s -> s.map(0, 0) + s.map(1, 1) + s.map(2, 0) + s.map(3, 1));
        leaves("count", s -> s.count(5) + s.count(21));
        leaves("loudness", s -> s.loudness() > 0 ? 1 : 0);
        sentence("what would be; nothing is changed");
        for (int w = 0; w <= 4; w++) {
            int what = w;
            leaves("ifHit " + what, s -> s.ifHit(4, 4, what));
            leaves("ifHit of the same key " + what, s -> s.ifHit(0, 9, what));
        }
        leaves("silentIn", ZoneSampler::silentIn);
        leaves("chord", s -> s.chord(63, 0, 4));
    }

    private void noChanges() {
        sentence("append, clear, save and undo are no changes");
        wideZones(2);
        x.append('p');
        x.clear();
        x.clear();
        x.append('x');
        x.save();
        x.save();
        counted(STATES, 2);
        x.undo();
        counted(STATES, 1);
        counted(PAD, 1);
        x.undo();
        counted(STATES, 0);
        counted(PAD, 1);
    }

    private void snapshotOfNothing() {
        sentence("restore: NOT_POSSIBLE if there is none");
        refused("a new sampler", NEW, ZoneSampler::restore, NOT_NOW);
        refused("a sampler with voices", ChangeEdgesTest::sounding, ZoneSampler::restore, NOT_NOW);
        wideZones(2);
        x.undo();
        due("undo makes none", x.restore(), NOT_NOW);
        sentence("restore: of a new sampler");
        due("save", x.save(), 0);
        sounding(x);
        pad("p");
        due("restore", x.restore(), 0);
        for (int what = 0; what <= 19; what++) {
            counted(what, what == 13 ? 6 : what == 15 ? 10 : 0);
        }
        counted(PAD, 1);
        counted(STATES, 4);
        due("undo", x.undo(), 3);
        counted(SOUNDING, 1);
    }

    private void snapshots() {
        sentence("save: Takes a snapshot of everything but the pad and the history, in place of the one that was.");
        wideZones(8);
        x.set(VOICES, 8);
        due("no voice", x.save(), 0);
        x.hit(0, 9);
        due("eight voices", x.save(), 8);
        x.pass(1);
        x.takeZone(0);
        due("restore", x.restore(), 8);
        counted(TICKS, 0);
        x.silence();
        x.pedal();
        due("no voice", x.save(), 0);
        x.hit(0, 9);
        due("the third one", x.restore(), 0);
        counted(PEDAL, 1);
        counted(STOPPED, 8);
    }

    private void snapshotStays() {
        sentence("restore: Restores the snapshot, which stays.");
        wideZones(2);
        x.hit(0, 9);
        x.hit(1, 8);
        x.save();
        String saved = heart(x);
        for (int i = 0; i < 4; i++) {
            x.pass(10);
            x.hit(i, 3);
            x.like(0, 1, 1, 20);
            x.pedal();
            due("restore", x.restore(), 4);
            check.same("all is as it was", heart(x), saved);
            counted(STATES, 4);
        }
    }

    private void snapshotAndUndo() {
        sentence("Undoes the latest change: everything but the pad and the snapshot is as it was before it.");
        wideZones(1);
        x.save();
        x.zone(1, 1, 1, 1);
        x.save();
        pad("p;p");
        x.undo();
        counted(ZONES, 1);
        counted(PAD, 3);
        due("the snapshot is the later one", x.restore(), 0);
        counted(ZONES, 2);
        due("a restored state is undone", x.undo(), 1);
        counted(ZONES, 1);
        x.restore();
        counted(ZONES, 2);
        due("undo behind the second one", x.undo(), 1);
        due("undo", x.undo(), 0);
        counted(ZONES, 0);
        x.restore();
        counted(ZONES, 2);
    }

    private void invalidRatherThanLimit() {
        sentence("INVALID_ARGUMENT is returned rather than LIMIT_REACHED");
        Setup ten = s -> wide(s, 10);
        refused("zone, low", ten, s -> s.zone(-1, 5, 1, 9), BAD);
        refused("zone, high", ten, s -> s.zone(0, 36, 1, 9), BAD);
        refused("zone, high below low", ten, s -> s.zone(5, 4, 1, 9), BAD);
        refused("zone, softest", ten, s -> s.zone(0, 5, 0, 9), BAD);
        refused("zone, hardest", ten, s -> s.zone(0, 5, 1, 10), BAD);
        refused("zone, hardest below softest", ten, s -> s.zone(0, 5, 5, 4), BAD);
        refused("zone", ten, s -> s.zone(0, 5, 4, 5), FULL);
        Setup sixty = s -> write(s, times("p;", 29) + "t9");
        refused("append 32", sixty, s -> s.append(32), BAD);
        refused("append 127", sixty, s -> s.append(127), BAD);
        refused("append 33", sixty, s -> s.append(33), FULL);
        refused("append 126", sixty, s -> s.append(126), FULL);
    }

    private void invalidRatherThanNotFound() {
        sentence("INVALID_ARGUMENT is returned rather than NOT_FOUND");
        refused("fault 2 of a score", Edges::busyScore, s -> s.fault(2), BAD);
        refused("fault -1 of zones", Edges::busyZones, s -> s.fault(-1), BAD);
        refused("fault of a score", Edges::busyScore, s -> s.fault(1), NONE);
        refused("fault of zones", Edges::busyZones, s -> s.fault(0), NONE);
        Setup all = s -> wide(s, 1);
        refused("map 4", all, s -> s.map(4, 0), BAD);
        refused("map 3, way 2", all, s -> s.map(3, 2), BAD);
        refused("map 3, way -1", all, s -> s.map(3, -1), BAD);
        refused("map 3, way 0", all, s -> s.map(3, 0), NONE);
        refused("map 3, way 1", all, s -> s.map(3, 1), NONE);
        refused("ifHit 3, key 36", NEW, s -> s.ifHit(36, 1, 3), BAD);
        refused("ifHit 3, key -1", NEW, s -> s.ifHit(-1, 1, 3), BAD);
        refused("ifHit 3, force 0", NEW, s -> s.ifHit(0, 0, 3), BAD);
        refused("ifHit 3, force 10", NEW, s -> s.ifHit(0, 10, 3), BAD);
        refused("ifHit 3", NEW, s -> s.ifHit(0, 1, 3), NONE);
    }

    private void notPossibleRatherThanLimit() {
        sentence("NOT_POSSIBLE rather than LIMIT_REACHED");
        String[] wrong = {"", "0", "0-0,1-1,1;", "0-0,1-1,1;0-0,1-1,0", "p", "0-0,1-1,1x"};
        for (String text : wrong) {
            refused("load of '" + text + "' with ten zones", s -> tenAndPad(s, text), ZoneSampler::load, NOT_NOW);
        }
        refused("load with ten zones", s -> tenAndPad(s, "0-0,1-1,1"), ZoneSampler::load, FULL);
    }

    private static void tenAndPad(ZoneSampler s, String text) {
        wide(s, 10);
        write(s, text);
    }

    private void noSuchNumber() {
        sentence("If there is no zone or voice of a certain number, this is INVALID_ARGUMENT.");
        for (int n : new int[] {-1, 0, 1, 9, 10, Integer.MIN_VALUE, Integer.MAX_VALUE}) {
            refused("like " + n, NEW, s -> s.like(n, 0, 0, 60), BAD);
            refused("takeZone " + n, NEW, s -> s.takeZone(n), BAD);
            refused("zoneOf " + n, NEW, s -> s.zoneOf(n, 0), BAD);
            refused("voice " + n, NEW, s -> s.voice(n, 0), BAD);
        }
        wideZones(3);
        x.takeZone(2);
        due("a zone that was taken away", x.zoneOf(2, 0), BAD);
        due("like", x.like(2, 0, 0, 60), BAD);
        due("takeZone", x.takeZone(2), BAD);
        x.hit(0, 9);
        voicesAre(0, 0, 1);
        x.pass(60);
        due("a voice that has ended", x.voice(0, 0), BAD);
        x.hit(0, 9);
        due("no third voice", x.voice(2, 6), BAD);
        x.undo();
        due("no voice any more", x.voice(0, 6), BAD);
    }

    private void errorsAreNoChanges() {
        sentence("A call that returns an error changes nothing (the pad stays, too): no state is recorded");
        wideZones(1);
        pad("n1.2;t");
        x.zone(0, 36, 1, 9);
        x.like(1, 0, 0, 60);
        x.takeZone(1);
        x.hit(0, 10);
        x.letGo(36);
        x.pass(0);
        x.pass(100);
        x.set(VOICES, 9);
        x.set(3, 1);
        x.append(32);
        x.load();
        x.play();
        x.restore();
        counted(STATES, 1);
        counted(PAD, 6);
        counted(ZONES, 1);
        counted(SETTINGS, 6);
        counted(TICKS, 0);
        x.append('3');
        due("the pad goes on", x.play(), 1);
        counted(TICKS, 3);
    }

    private void manyCalls() {
        sentence("An object is used for at most 512 calls after it has been made");
        x.zone(0, 35, 1, 9);
        x.like(0, 0, 2, 60);
        for (int i = 0; i < 503; i++) {
            due("hit", x.hit(i % 36, 1 + i % 9), 1);
        }
        counted(BEGAN, 503);
        counted(STOLEN, 497);
        counted(TURNS + 1, 503);
        counted(STATES, 4);
        due("undo", x.undo(), 3);
        counted(BEGAN, 502);
        due("hit", x.hit(0, 9), 1);
        anew();
        for (int i = 0; i < 510; i++) {
            due("pass", x.pass(99), 0);
        }
        counted(TICKS, 510 * 99);
        due("undo", x.undo(), 3);
    }

    @Override
    void tests() {
        emptyHistory();
        fourStates();
        undoneAndChanged();
        changes();
        changesOfNothing();
        playIsOneChange();
        looksChangeNothing();
        noChanges();
        snapshotOfNothing();
        snapshots();
        snapshotStays();
        snapshotAndUndo();
        invalidRatherThanLimit();
        invalidRatherThanNotFound();
        notPossibleRatherThanLimit();
        noSuchNumber();
        errorsAreNoChanges();
        manyCalls();
    }

    public static void main(String[] args) {
        new ChangeEdgesTest().run();
    }
}
