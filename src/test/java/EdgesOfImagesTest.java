/** The edges of IMAGES, of numbers that wait and of what is counted and told: promises 40 to 45. */
public final class EdgesOfImagesTest {
    private EdgesOfImagesTest() { }

    public static void main(String[] args) {
        imageOfEach();
        imageOfAll();
        imageOfWords();
        imageBut();
        image();
        restore();
        tell();
        check();
        checkRefused();
        count();
        told();
        Script.end();
    }

    /** Of each thing that an IMAGE keeps: what it was, shown before, changed, and as it was after restore(). */
    private static void imageOfEach() {
        String sentence = "All (but SHEETS, THE TRACE, what told() tells, and how often this was done) is kept as an IMAGE";
        String[][] things = {
            {"place() = 4", "count(1) = 4", "way(4, 4) = BEYOND"},
            {"near(0, 1, 9) = 2", "way(0, 1) = 2", "near(1, 0, 5) = 2"},
            {"near(0, 3, 1) = 0", "way(0, 3) = NONE", "near(0, 3, 1) = 0"},
            {"near(1, 2, 9) = 3", "way(2, 1) = 3", "way(1, 2) = 3", "near(2, 1, 5) = 3"},
            {"near(2, 3, 9) = 0", "way(2, 3) = NONE", "way(3, 2) = NONE", "near(2, 3, 5) = 0"},
            {"rule(0, 5) = 12", "rule(0, 12) = 12"},
            {"rule(1, 9) = 3", "rule(1, 3) = 3"},
            {"loss(29) = 13", "loss(13) = 13"},
            {"word(1, 1, 0) = 5", "count(2) = 5", "ofWord(5, 0) = BEYOND", "came(1, 0, 399) = 1"},
            {"lose(3) = 1", "ofWord(3, 5) = 7", "count(3) = 1", "came(1, 3, 399) = 1", "lose(3) = 1"},
            {"live(1) = 3", "count(0) = 2", "stance(0, 0, 3) = BEYOND"},
            {"text(5) = -12", "count(5) = 2", "feed(50, 1) = 3", "text(5) = 1", "law(5, 0, 0) = 3"},
            {"feed(0, 8) = 10", "count(5) = 2", "feed(50, 1) = 3", "text(5) = 1", "law(5, 0, 0) = 3"},
            {"text(5) = -12\nfeed(14649, 2) = 2", "count(5) = 2", "feed(50, 1) = 3", "text(5) = 1", "law(5, 0, 0) = 3"},
            {"aim(0, -1) = 1", "live(1) = 3", "ofWord(5, 1) = 0", "ofWord(6, 1) = 1"},
            {"aim(0, 23) = 1", "live(1) = 3", "ofWord(5, 2) = 1", "ofWord(5, 3) = 0"},
            {"aim(2, 0) = 1", "live(2) = 4", "ofWord(5, 1) = 0", "ofWord(6, 1) = 1", "ofWord(7, 1) = 0"},
            {"pays(0, 9) = 5", "pays(0, 5) = 5"},
            {"pays(73, 9) = -5", "pays(73, 5) = -5"},
            {"pays(41, 9) = 0", "pays(41, 5) = 0"},
            {"work(9, 9) = 2", "count(4) = 2", "edge(2, 1) = BEYOND", "work(0, 1) = 2", "edge(2, 9) = 1"},
            {"seed(3) = 1", "seed(4) = 1"},
            {"tell(4) = 2", "count(6) = 1", "check(1, 0) = 0"},
            {"check(1, 0) = 0", "count(6) = 1", "check(1, 0) = 0"},
            {"check(1, 0) = 0\ntell(9) = 1", "count(6) = 1", "check(1, 0) = 0"},
            {"check(1, 0) = 0\ntell(9) = 1\ntell(9) = 2", "tell(9) = 2", "check(1, 0) = 2"},
        };
        for (String[] thing : things) {
            StringBuilder lines = new StringBuilder(Worlds.RICH + "seed(1) = " + zOfRich() + "\nimage() = 2\n" + thing[0] + "\nrestore() = 2\n");
            for (int i = 1; i < thing.length; i++) {
                lines.append(thing[i]).append('\n');
            }
            Script.edge("Promise 40", sentence, lines.toString());
        }
        Script.edge("Promise 40", sentence, Worlds.RICH + """
            image() = 2
            # TEXTS, in place of those ahead and where there were none
            # THE TAPE has 1+
            tape(9)
            text(0) = 1
            law(0, 0, 0) = 10
            tape(9)
            text(5) = 1
            tape(t)
            text(6) = 1
            tape(o+t)
            text(7) = 1
            restore() = 2
            law(0, 0, 0) = 1
            law(5, 0, 0) = 0
            law(6, 1, 2) = 1
            law(7, 1, 2) = 0
            minds(0, 0) = 0
            """);
    }

    /** All that an IMAGE keeps is changed, and is as it was after restore(), which may be done again. */
    private static void imageOfAll() {
        String sentence = "All is as the IMAGE has it, which stays: NOW.";
        String changes = """
            place() = 4
            place() = 5
            near(0, 1, 9) = 2
            near(1, 2, 9) = 3
            near(2, 3, 9) = 0
            near(4, 5, 9) = 0
            rule(0, 5) = 12
            rule(1, 9) = 3
            loss(9) = 13
            word(1, 10, 2) = 5
            word(2, 45, 3) = 6
            lose(3) = 1
            lose(2) = 1
            text(5) = -12
            tape(4+s)
            text(0) = 1
            tape(5)
            text(4) = 1
            tape(t)
            text(6) = 1
            tape(9999)
            aim(0, -1) = 1
            aim(4, 51) = 1
            live(9) = 11
            pays(0, 9) = 5
            pays(41, 9) = 0
            work(9, 9) = 2
            seed(3) = %d
            check(1, 0) = 0
            tell(6) = 1
            tell(7) = 2
            """;
        // There were draws for two WORDS by word(), and in 9 YEARS for those of PLACE 1, which has its AIM still, and 4.
        int z = zOfRich();
        for (int i = 0; i < 2 + 9 + 9; i++) {
            z = z * 1103515245 + 12345;
        }
        String changed = changes.formatted(z);
        Script.alike("Promise 41", sentence, Worlds.RICH + "image() = 2\n",
            Worlds.RICH + "image() = 2\n" + changed + "restore() = 2\n");
        Script.alike("Promise 41", "which stays", Worlds.RICH + "image() = 2\n",
            Worlds.RICH + "image() = 2\n" + changed + "restore() = 2\n" + changed + "restore() = 2\nrestore() = 2\n");
        // Back to nothing at all, and all of it once more.
        Script.alike("Promise 40", "is kept as an IMAGE, in place of one ahead", "image() = 1\nimage() = 2\n",
            "image() = 1\n" + Worlds.SIX + Worlds.works(8) + Worlds.words(9, 0, 4, 54, 3) + "live(9) = 9\nrestore() = 0\nimage() = 2\n");
        Script.alike("Promise 40", "is kept as an IMAGE, in place of one ahead", Worlds.FULL + "image() = 1\nimage() = 2\n",
            "image() = 1\n" + Worlds.TWO + Worlds.works(3) + Worlds.words(9, 0, 4, 10, 3) + "tell(9) = 1\nrestore() = 0\n"
                + Worlds.FULL + "image() = 2\nrestore() = 399\n");
    }

    private static void imageOfWords() {
        int[][] due = {
            {1, 0, 1, 0, 0, 2, 30, 1}, {2, 1, 0, 1, 0, 2, 30, 1}, {5, 1, 2, 0, 2, 5, 12, 2}, {6, 2, 1, 3, 2, 7, 12, 1},
            {0, 0, 1, 0, 2, -1, 12, 1}
        };
        StringBuilder words = new StringBuilder();
        for (int word = 0; word < due.length; word++) {
            for (int what = 0; what < 8; what++) {
                words.append("ofWord(" + word + ", " + what + ") = " + due[word][what] + "\n");
            }
        }
        Script.edge("Promise 41", "All is as the IMAGE has it", Worlds.RICH + "image() = 2\nword(1, 10, 0) = 5\nlose(2) = 1\n"
            + "restore() = 2\n" + words + "ofWord(5, 0) = BEYOND\nimage() = 3\nrestore() = 2\n" + words);
    }

    /** z of Worlds.RICH: 77, and five draws. */
    private static int zOfRich() {
        int z = 77;
        for (int i = 0; i < 5; i++) {
            z = z * 1103515245 + 12345;
        }
        return z;
    }

    private static void imageBut() {
        Script.edge("Promise 40", "but SHEETS, THE TRACE, what told() tells, and how often this was done", Worlds.RICH + """
            image() = 2
            # SHEETS
            sheet(0, 16, 3) = 1
            put(0, 0, 256) = 1
            sheet(3, 32, 1) = 1
            sheet(2, 0, 0) = 1
            # THE TRACE
            voice(0, 0, 5) = 3
            # what told() tells
            way(9, 9) = BEYOND
            words(2) = NONE
            restore() = 2
            move(0, 0, 1, 0, 3) = 3
            put(0, 2, 0) = 1
            put(0, 3, 0) = BEYOND
            put(3, 0, 0) = 1
            words(2) = NONE
            count(7) = 2
            trace(0) = 20
            told(1) = 2
            told(2) = 2
            # how often this was done
            image() = 3
            restore() = 2
            image() = 4
            """);
    }

    private static void image() {
        Script.edge("Promise 40", "in place of one ahead: how often that was done.", """
            image() = 1
            place() = 0
            image() = 2
            place() = 1
            place() = 2
            restore() = 0
            count(1) = 1
            place() = 1
            image() = 3
            place() = 2
            restore() = 0
            count(1) = 2
            """);
    }

    private static void restore() {
        Script.edge("Promise 41", "All is as the IMAGE has it, which stays: NOW.", """
            live(7) = 7
            image() = 1
            live(50) = 57
            restore() = 7
            restore() = 7
            live(1) = 8
            seed(5) = 1
            restore() = 7
            count(8) = 1
            count(0) = 7
            # an IMAGE of a later YEAR
            live(50) = 57
            live(50) = 107
            image() = 2
            restore() = 107
            """);
        Script.edge("Promise 41", "NONE: there is none.", """
            restore() = NONE
            place() = 0
            restore() = NONE
            count(1) = 1
            image() = 1
            restore() = 0
            told(2) = 2
            """);
    }

    private static void tell() {
        Script.edge("Promise 42", "One more number waits: how many.", """
            tell(0) = 1
            tell(MAX) = 2
            tell(MIN) = 3
            tell(-1000001) = 4
            count(6) = 4
            """);
        Script.edge("Promise 42", "FULL: 20 wait.", Worlds.tells(19) + """
            count(6) = 19
            tell(7) = 20
            2x tell(7) = FULL
            count(6) = 20
            check(0, 0) = BEYOND
            tell(7) = 1
            """);
    }

    private static void check() {
        String sentence = "The numbers that wait (none do then) are all WORDS about a PACT that have COME to a PLACE up to NOW, by YEARS in which they COME, of like ones by numbers: 0";
        // To 1 about PACT 0: in 1 the WORDS 2 and 4, in 2 the WORD 0, in 3 the WORD 3; 1 is about PACT 1, 5 is LOST.
        String words = Worlds.TWO + """
            near(0, 1, 2) = 1
            word(0, 1, 0) = 0
            near(0, 1, 1) = 2
            word(0, 1, 1) = 1
            word(0, 1, 0) = 2
            word(6, 1, 0) = 3
            word(0, 1, 0) = 4
            word(0, 1, 0) = 5
            lose(5) = 1
            """;
        Script.edge("Promise 43", sentence, words + "check(1, 0) = 0\nlive(1) = 1\n" + waits(2, 4) + "check(1, 0) = 0\n"
            + waits(4, 2) + "check(1, 0) = 1\n" + "live(1) = 2\n" + waits(2, 4, 0) + "check(1, 0) = 0\n"
            + waits(0, 2, 4) + "check(1, 0) = 1\n" + "live(1) = 3\n" + waits(2, 4, 0, 3) + "check(1, 0) = 0\n"
            + waits(1) + "check(1, 1) = 0\ncheck(0, 0) = 0\ncheck(1, 2) = 0\ncount(6) = 0\n");
        Script.edge("Promise 43", "(none do then)", words + "live(3) = 3\n" + waits(2, 4, 0, 3) + "check(1, 0) = 0\ncount(6) = 0\n"
            + "check(1, 0) = 1\n" + waits(2) + "check(1, 0) = 2\ncount(6) = 0\n");
        Script.edge("Promise 43", "else 1 and the place (from 0) of the first that isn't so, or is missing.", words + "live(3) = 3\n"
            // Missing: the first, the second, the last.
            + "check(1, 0) = 1\n" + waits(2) + "check(1, 0) = 2\n" + waits(2, 4, 0) + "check(1, 0) = 4\n"
            // Not so: the first, one in the middle, the last, one too many.
            + waits(7, 4, 0, 3) + "check(1, 0) = 1\n" + waits(2, 4, 5, 3) + "check(1, 0) = 3\n" + waits(2, 4, 0, 5) + "check(1, 0) = 4\n"
            + waits(2, 4, 0, 3, 3) + "check(1, 0) = 5\n" + waits(2, 4, 0, -1) + "check(1, 0) = 4\n"
            // None has COME there.
            + waits(2) + "check(0, 0) = 1\n" + waits(2, 4, 0, 3, 5, 1) + "check(1, 0) = 5\n");
        Script.edge("Promise 43", "or is missing", Worlds.TWO + Worlds.words(21, 0, 0, 1, 0) + "live(1) = 1\n"
            + waits(0, 1, 2, 3, 4, 5, 6, 7, 8, 9, 10, 11, 12, 13, 14, 15, 16, 17, 18, 19) + "check(1, 0) = 21\n");
        Script.edge("Promise 43", sentence, Worlds.TWO + Worlds.words(20, 0, 0, 10, 3) + "live(1) = 1\n"
            + waits(0, 1, 2, 3, 4, 5, 6, 7, 8, 9, 10, 11, 12, 13, 14, 15, 16, 17, 18, 19) + "check(0, 3) = 0\n");
    }

    private static String waits(int... numbers) {
        StringBuilder lines = new StringBuilder();
        for (int i = 0; i < numbers.length; i++) {
            lines.append("tell(" + numbers[i] + ") = " + (i + 1) + "\n");
        }
        return lines.toString();
    }

    private static void checkRefused() {
        StringBuilder lines = new StringBuilder(Worlds.TWO);
        for (String at : new String[] {"2, 0", "-1, 0", "MAX, 0", "MIN, 0", "0, 4", "0, -1", "0, MAX", "0, MIN"}) {
            lines.append("tell(5) = 1\ntell(6) = 2\ncheck(" + at + ") = BEYOND\ncount(6) = 0\n");
        }
        Script.edge("Promise 43", "BEYOND (none wait then, too).", "check(0, 0) = BEYOND\n" + lines + "check(2, 0) = BEYOND\ncheck(1, 3) = 0\n");
    }

    private static void count() {
        Script.edge("Promise 44", "0 NOW, 1 PLACES, 2 WORDS, 3 of these LOST, 4 WORKS, 5 bytes of THE TAPE, 6 numbers that wait, 7 BODIES in THE TRACE, 8 z (any number).", Worlds.RICH + """
            count(0) = 2
            count(1) = 4
            count(2) = 5
            count(3) = 1
            count(4) = 2
            count(5) = 2
            count(6) = 1
            count(7) = 6
            seed(-1000001) = %d
            count(8) = -1000001
            told(1) = 0
            """.formatted(zOfRich()));
        Script.edge("Promise 44", "0 NOW, 1 PLACES, 2 WORDS", Worlds.FULL + """
            count(0) = 399
            count(1) = 6
            count(2) = 80
            count(3) = 0
            count(4) = 8
            count(5) = 50
            count(6) = 20
            """);
        Script.edge("Promise 44", "BEYOND.", """
            count(9) = BEYOND
            count(-1) = BEYOND
            count(MAX) = BEYOND
            count(MIN) = BEYOND
            count(8) = 1
            count(0) = 0
            """);
    }

    private static void told() {
        Script.edge("Promise 45", "How many acts have answered an ERROR LOW - k (k 1 .. 5)", Worlds.TWO + """
            told(1) = 0
            told(2) = 0
            told(3) = 0
            told(4) = 0
            told(5) = 0
            way(2, 0) = BEYOND
            odds(0, 0, 0) = BEYOND
            heirs(9, 9, 9) = BEYOND
            restore() = NONE
            trace(0) = NONE
            sheet(0, 8, -1) = STATE
            word(0, 1, 0) = 0
            as(0, 1) = KIND
            place() = 2
            place() = 3
            place() = 4
            place() = 5
            4x place() = FULL
            # no ERRORS: a FAULT, LOST, a number like one, what words() comes upon
            text(0) = -10
            lose(0) = 1
            ofWord(0, 5) = -1
            voice(0, 0, -1000003) = -1000003
            sheet(0, 8, 3) = 1
            words(0) = 0
            told(1) = 3
            told(2) = 2
            told(3) = 1
            told(4) = 4
            told(5) = 1
            """);
        Script.edge("Promise 45", "BEYOND: another k (counted, too).", """
            told(0) = BEYOND
            told(6) = BEYOND
            told(-1) = BEYOND
            told(MAX) = BEYOND
            told(MIN) = BEYOND
            told(-1000001) = BEYOND
            told(1) = 6
            told(5) = 0
            """);
    }
}
