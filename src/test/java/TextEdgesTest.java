/** The boundary sentences of the document on the pad, its two ways to be read, load and play. */
final class TextEdgesTest extends Edges {
    private static final int AS_ZONES = 0, AS_SCORE = 1;

    private void faultIs(int way, String text, int due) {
        anew();
        pad(text);
        counted(PAD, text.length());
        due("fault(" + way + ") of '" + text + "'", x.fault(way), due);
    }

    /** The text is complete and right. */
    private void right(int way, String text) {
        faultIs(way, text, NONE);
    }

    /** The text can go on to be right, but is not complete. */
    private void open(int way, String text) {
        faultIs(way, text, text.length());
    }

    /** The last character is the first one that is wrong; what comes behind it makes no difference. */
    private void wrongAtLast(int way, String text) {
        faultIs(way, text, text.length() - 1);
        faultIs(way, text + "1", text.length() - 1);
        faultIs(way, text + ";p", text.length() - 1);
    }

    private void padOfSixty() {
        sentence("There is a pad of at most 60 characters, initially empty.");
        counted(PAD, 0);
        due("clear", x.clear(), 0);
        for (int length = 1; length <= 60; length++) {
            due("append", x.append(33 + length), length);
            counted(PAD, length);
        }
        due("the 61st", x.append('0'), FULL);
        counted(PAD, 60);
        due("clear", x.clear(), 60);
        counted(PAD, 0);
        due("the first again", x.append(126), 1);
        due("clear", x.clear(), 1);
        due("clear, empty", x.clear(), 0);
    }

    private void clearForgets() {
        sentence("clear: Empties the pad.");
        pad(times("p;", 30));
        x.clear();
        due("as zones", x.fault(AS_ZONES), 0);
        due("as a score", x.fault(AS_SCORE), 0);
        due("load", x.load(), NOT_NOW);
        due("play", x.play(), NOT_NOW);
        x.append('p');
        due("only what came then", x.fault(AS_SCORE), NONE);
        due("only one deed", x.play(), 0);
        counted(PEDAL, 1);
    }

    private void emptyPad() {
        sentence("if there is none, and the pad is not complete (also if it is empty), the length of the pad");
        due("as zones", x.fault(AS_ZONES), 0);
        due("as a score", x.fault(AS_SCORE), 0);
        String zones = "12-34,5-6,60g3r4;0-0,1-1,1";
        for (int length = 1; length < zones.length(); length++) {
            boolean complete = "12-34,5-6,6|12-34,5-6,60|12-34,5-6,60g3|12-34,5-6,60g3r4|"
                .contains(zones.substring(0, length) + "|");
            faultIs(AS_ZONES, zones.substring(0, length), complete ? NONE : length);
        }
        right(AS_ZONES, zones);
        String score = "n35.9;o35;p;t99;n0.1";
        for (int length = 1; length < score.length(); length++) {
            boolean complete = "n35.9|n35.9;o3|n35.9;o35|n35.9;o35;p|n35.9;o35;p;t9|n35.9;o35;p;t99|"
                .contains(score.substring(0, length) + "|");
            faultIs(AS_SCORE, score.substring(0, length), complete ? NONE : length);
        }
        right(AS_SCORE, score);
    }

    private void firstCharacters() {
        sentence("the position, from 0, of the first character that is wrong: at the very first");
        for (int code = 33; code <= 126; code++) {
            String one = String.valueOf((char) code);
            boolean digit = code >= '0' && code <= '9';
            faultIs(AS_ZONES, one, digit ? 1 : 0);
            faultIs(AS_SCORE, one, code == 'p' ? NONE : code == 'n' || code == 'o' || code == 't' ? 1 : 0);
        }
    }

    /** Behind each beginning just these characters can stand. */
    private void next(int way, String before, String can) {
        anew();
        for (int code = 33; code <= 126; code++) {
            pad(before + (char) code);
            boolean wrong = x.fault(way) == before.length();
            check.yes("'" + (char) code + "' behind '" + before + "'", wrong == (can.indexOf(code) < 0));
            if (code % 15 == 0) {
                anew();
            }
        }
    }

    private void nextInZones() {
        sentence("no pad of that kind, of any length, begins with the characters before it and this character: zones");
        next(AS_ZONES, "", "0123456789");
        next(AS_ZONES, "0", "-");
        next(AS_ZONES, "1", "-0123456789");
        next(AS_ZONES, "2", "-0123456789");
        next(AS_ZONES, "3", "-012345");
        next(AS_ZONES, "4", "-");
        next(AS_ZONES, "9", "-");
        next(AS_ZONES, "35", "-");
        next(AS_ZONES, "10", "-");
        next(AS_ZONES, "0-", "0123456789");
        next(AS_ZONES, "0-0", ",");
        next(AS_ZONES, "1-", "123456789");
        next(AS_ZONES, "1-1", ",0123456789");
        next(AS_ZONES, "2-1", "0123456789");
        next(AS_ZONES, "9-3", "012345");
        next(AS_ZONES, "9-", "1239");
        next(AS_ZONES, "10-1", "0123456789");
        next(AS_ZONES, "19-1", "9");
        next(AS_ZONES, "19-", "123");
        next(AS_ZONES, "20-", "23");
        next(AS_ZONES, "29-2", "9");
        next(AS_ZONES, "29-3", "012345");
        next(AS_ZONES, "30-", "3");
        next(AS_ZONES, "35-3", "5");
        next(AS_ZONES, "35-35", ",");
        next(AS_ZONES, "0-4", ",");
        next(AS_ZONES, "0-0,", "123456789");
    }

    private void nextInForcesAndLengths() {
        sentence("no pad of that kind, of any length, begins with them: forces, lengths, the group and the robin");
        next(AS_ZONES, "0-0,1", "-");
        next(AS_ZONES, "0-0,1-", "123456789");
        next(AS_ZONES, "0-0,5-", "56789");
        next(AS_ZONES, "0-0,9-", "9");
        next(AS_ZONES, "0-0,9-9", ",");
        next(AS_ZONES, "0-0,1-1,", "123456789");
        next(AS_ZONES, "0-0,1-1,1", "0123456789gr;");
        next(AS_ZONES, "0-0,1-1,5", "0123456789gr;");
        next(AS_ZONES, "0-0,1-1,6", "0gr;");
        next(AS_ZONES, "0-0,1-1,7", "gr;");
        next(AS_ZONES, "0-0,1-1,60", "gr;");
        next(AS_ZONES, "0-0,1-1,1g", "123");
        next(AS_ZONES, "0-0,1-1,1g1", "r;");
        next(AS_ZONES, "0-0,1-1,1r", "1234");
        next(AS_ZONES, "0-0,1-1,1r4", ";");
        next(AS_ZONES, "0-0,1-1,1g3r", "1234");
        next(AS_ZONES, "0-0,1-1,1g3r1", ";");
        next(AS_ZONES, "0-0,1-1,1;", "0123456789");
        next(AS_ZONES, "35-35,9-9,60g3r4;0", "-");
        next(AS_ZONES, "35-35,9-9,60g3r4;1-", "123456789");
        next(AS_ZONES, "35-35,9-9,60g3r4;1-1,1-", "123456789");
    }

    private void nextInScores() {
        sentence("no pad of that kind, of any length, begins with the characters before it and this character: scores");
        next(AS_SCORE, "", "nopt");
        next(AS_SCORE, "n", "0123456789");
        next(AS_SCORE, "n0", ".");
        next(AS_SCORE, "n1", ".0123456789");
        next(AS_SCORE, "n3", ".012345");
        next(AS_SCORE, "n4", ".");
        next(AS_SCORE, "n35", ".");
        next(AS_SCORE, "n0.", "123456789");
        next(AS_SCORE, "n0.1", ";");
        next(AS_SCORE, "n0.9", ";");
        next(AS_SCORE, "o", "0123456789");
        next(AS_SCORE, "o0", ";");
        next(AS_SCORE, "o2", "0123456789;");
        next(AS_SCORE, "o3", "012345;");
        next(AS_SCORE, "o9", ";");
        next(AS_SCORE, "o35", ";");
        next(AS_SCORE, "p", ";");
        next(AS_SCORE, "t", "123456789");
        next(AS_SCORE, "t1", "0123456789;");
        next(AS_SCORE, "t9", "0123456789;");
        next(AS_SCORE, "t99", ";");
        next(AS_SCORE, "t10", ";");
        next(AS_SCORE, "p;", "nopt");
        next(AS_SCORE, "t99;o", "0123456789");
    }

    private void keysNotLess() {
        sentence("a key, \"-\", a key that is not less: each pair of keys");
        for (int low = 0; low <= 35; low++) {
            for (int high = 0; high <= 35; high++) {
                if (high % 12 == 0) {
                    anew();
                }
                pad(low + "-" + high + ",1-1,1");
                check.yes(low + "-" + high, (x.fault(AS_ZONES) == NONE) == (high >= low));
            }
        }
        sentence("a force, \"-\", a force that is not less: each pair of forces");
        for (int soft = 0; soft <= 10; soft++) {
            anew();
            for (int hard = 0; hard <= 10; hard++) {
                pad("0-0," + soft + "-" + hard + ",1");
                boolean can = 1 <= soft && soft <= hard && hard <= 9;
                check.yes(soft + "-" + hard, (x.fault(AS_ZONES) == NONE) == can);
            }
        }
    }

    private void numbers() {
        sentence("Keys are numbers 0 to 35, forces 1 to 9, lengths 1 to 60; t and a number 1 to 99");
        for (int n = 0; n <= 110; n++) {
            anew();
            pad("n" + n + ".1");
            check.yes("key " + n, (x.fault(AS_SCORE) == NONE) == (n <= 35));
            pad("o" + n);
            check.yes("key " + n, (x.fault(AS_SCORE) == NONE) == (n <= 35));
            pad("n0." + n);
            check.yes("force " + n, (x.fault(AS_SCORE) == NONE) == (n >= 1 && n <= 9));
            pad("t" + n);
            check.yes("ticks " + n, (x.fault(AS_SCORE) == NONE) == (n >= 1 && n <= 99));
            pad("0-0,1-1," + n);
            check.yes("length " + n, (x.fault(AS_ZONES) == NONE) == (n >= 1 && n <= 60));
            pad("0-0,1-1,1g" + n);
            check.yes("group " + n, (x.fault(AS_ZONES) == NONE) == (n >= 1 && n <= 3));
            pad("0-0,1-1,1r" + n);
            check.yes("robin " + n, (x.fault(AS_ZONES) == NONE) == (n >= 1 && n <= 4));
        }
    }

    private void neededZeros() {
        sentence("numbers have no needless 0 ahead");
        wrongAtLast(AS_ZONES, "00");
        wrongAtLast(AS_ZONES, "01");
        wrongAtLast(AS_ZONES, "0-00");
        wrongAtLast(AS_ZONES, "0-05");
        wrongAtLast(AS_ZONES, "5-0");
        wrongAtLast(AS_ZONES, "0-0,0");
        wrongAtLast(AS_ZONES, "0-0,1-0");
        wrongAtLast(AS_ZONES, "0-0,1-1,0");
        wrongAtLast(AS_ZONES, "0-0,1-1,1g0");
        wrongAtLast(AS_ZONES, "0-0,1-1,1r0");
        wrongAtLast(AS_SCORE, "n00");
        wrongAtLast(AS_SCORE, "n09");
        wrongAtLast(AS_SCORE, "n0.0");
        wrongAtLast(AS_SCORE, "o00");
        wrongAtLast(AS_SCORE, "o01");
        wrongAtLast(AS_SCORE, "t0");
        right(AS_SCORE, "n0.1;o0;n10.1;o30;t10;t90");
    }

    private void sixtyCharacters() {
        sentence("The fault of the pad: of 60 characters, where a pad of any length could go on");
        right(AS_ZONES, times("0-0,1-1,1;", 5) + "0-0,1-1,60");
        open(AS_ZONES, times("0-0,1-1,1;", 6));
        open(AS_ZONES, times("0-0,1-1,1;", 4) + "35-35,1-1,60g1r1;35-");
        wrongAtLast(AS_ZONES, times("0-0,1-1,1;", 5) + "0-x");
        faultIs(AS_ZONES, times("0-0,1-1,1;", 5) + "0-0,1-1,1x", 59);
        right(AS_SCORE, times("p;", 28) + "p;t9");
        right(AS_SCORE, times("p;", 29) + "o0");
        open(AS_SCORE, times("p;", 30));
        open(AS_SCORE, times("p;", 29) + "n1");
        open(AS_SCORE, times("p;", 28) + "n12.");
        faultIs(AS_SCORE, times("p;", 29) + "pp", 59);
        faultIs(AS_SCORE, times(";", 60), 0);
    }

    private void loads() {
        sentence("load: Adds the zones of the pad, one after the other, and empties the pad.");
        pad("0-0,1-1,1");
        due("one", x.load(), 1);
        counted(PAD, 0);
        pad("0-35,1-9,60g3r4;35-35,9-9,1g1;7-8,2-3,10r1");
        due("three", x.load(), 4);
        counted(PAD, 0);
        int[][] due = {
            {0, 0, 1, 1, 0, 0, 1, 0, 1}, {0, 35, 1, 9, 3, 4, 60, 0, 1},
            {35, 35, 9, 9, 1, 0, 1, 0, 1}, {7, 8, 2, 3, 0, 1, 10, 0, 1}};
        for (int zone = 0; zone < due.length; zone++) {
            for (int what = 0; what <= 8; what++) {
                due("zoneOf(" + zone + ", " + what + ")", x.zoneOf(zone, what), due[zone][what]);
            }
        }
        due("nothing is left on the pad", x.load(), NOT_NOW);
        counted(ZONES, 4);
    }

    private void loadsUpToTen() {
        sentence("load: LIMIT_REACHED if there would be more than 10");
        String six = times("0-0,1-1,1;", 5) + "0-0,1-1,1";
        wideZones(4);
        pad(six);
        due("ten", x.load(), 10);
        counted(ZONES, 10);
        counted(PAD, 0);
        pad("0-0,1-1,1");
        due("the 11th", x.load(), FULL);
        counted(PAD, 9);
        x.takeZone(0);
        due("there is room now", x.load(), 10);
        refused("six and five", s -> padded(s, 5, six), ZoneSampler::load, FULL);
        refused("six and ten", s -> padded(s, 10, six), ZoneSampler::load, FULL);
        refused("one and ten", s -> padded(s, 10, "0-0,1-1,1"), ZoneSampler::load, FULL);
        refused("two and nine", s -> padded(s, 9, "0-0,1-1,1;0-0,1-1,1"), ZoneSampler::load, FULL);
    }

    private static void padded(ZoneSampler s, int zones, String text) {
        wide(s, zones);
        write(s, text);
    }

    private void takenFromSixty() {
        sentence("load and play: of a pad of 60 characters, and the pad is empty then");
        pad(times("0-0,1-1,1;", 5) + "7-9,3-5,60");
        counted(PAD, 60);
        due("load", x.load(), 6);
        counted(PAD, 0);
        due("the last character counts", x.zoneOf(5, 6), 60);
        due("append", x.append('p'), 1);
        pad(times("p;", 28) + "n8.4");
        counted(PAD, 60);
        due("play", x.play(), 1);
        counted(PAD, 0);
        voicesAre(2, 4);
        counted(PEDAL, 0);
        due("append", x.append('p'), 1);
    }

    private void refusedTexts() {
        sentence("NOT_POSSIBLE if the pad has a fault, read as zones; or as a score");
        String[] wrong = {"", "x", "0-0,1-1", "0-0,1-1,1;", "p;", "n1.", "0-0,1-1,1;p", "p;0-0,1-1,1"};
        for (String text : wrong) {
            refused("load of '" + text + "'", s -> busy(s, text), ZoneSampler::load, NOT_NOW);
            refused("play of '" + text + "'", s -> busy(s, text), ZoneSampler::play, NOT_NOW);
        }
        refused("load of a score", Edges::busyScore, ZoneSampler::load, NOT_NOW);
        refused("play of zones", Edges::busyZones, ZoneSampler::play, NOT_NOW);
    }

    private void plays() {
        sentence("play: Plays the score of the pad, and empties the pad. Returns how many voices begin in it");
        pad("p");
        due("none", x.play(), 0);
        counted(PAD, 0);
        counted(PEDAL, 1);
        due("nothing is left on the pad", x.play(), NOT_NOW);
        pad("p");
        x.play();
        counted(PEDAL, 0);
        wideZones(10);
        pad("n35.9");
        due("ten, also those that are stolen", x.play(), 10);
        counted(STOLEN, 4);
        pad(times("n0.1;", 11) + "n0.1");
        due("twelve notes", x.play(), 120);
        counted(BEGAN, 130);
        pad("t99;o0;t1");
        due("none", x.play(), 0);
        counted(TICKS, 100);
        counted(SOUNDING, 0);
        anew();
        wideZones(1);
        x.hit(1, 9);
        pad("n0.9;t5;o0;p;o1;t1");
        due("the one before is not counted", x.play(), 1);
        voicesAre(5, 1, 2);
        voicesAre(3, 84, 75);
        voicesAre(4, 6, 6);
    }

    private void playsInOrder() {
        sentence("play: the deeds one after the other, up to as many as the pad holds");
        pad(times("p;", 29) + "p");
        due("30 times the pedal", x.play(), 0);
        counted(PEDAL, 0);
        pad(times("p;", 28) + "p");
        due("29 times", x.play(), 0);
        counted(PEDAL, 1);
        pad(times("t99;", 14) + "t99");
        due("15 times 99 ticks", x.play(), 0);
        counted(TICKS, 15 * 99);
        wideZones(1);
        pad("p;n0.9;t1;o0;t1;p");
        due("pedal up, key, tick, key up, tick, pedal", x.play(), 1);
        voicesAre(3, 79);
        voicesAre(5, 2);
        pad("n0.5;o0");
        x.play();
        voicesAre(5, 2, 1);
    }

    private void padStays() {
        sentence("each change records everything before it but the pad; undo: everything but the pad is as it was");
        pad("p");
        x.play();
        pad("t5");
        due("undo", x.undo(), 0);
        counted(PAD, 2);
        due("the text is the later one", x.play(), 0);
        counted(TICKS, 5);
        x.undo();
        counted(PAD, 0);
        x.save();
        pad("0-0,1-1,1");
        due("restore", x.restore(), 0);
        counted(PAD, 9);
        due("the text stays", x.load(), 1);
    }

    @Override
    void tests() {
        padOfSixty();
        clearForgets();
        emptyPad();
        firstCharacters();
        nextInZones();
        nextInForcesAndLengths();
        nextInScores();
        keysNotLess();
        numbers();
        neededZeros();
        sixtyCharacters();
        loads();
        loadsUpToTen();
        takenFromSixty();
        refusedTexts();
        plays();
        playsInOrder();
        padStays();
    }

    public static void main(String[] args) {
        new TextEdgesTest().run();
    }
}
