/** Promises 34 to 45. */
public final class DrawsToToldTest {
    private DrawsToToldTest() { }

    private static final String SEVEN = """
        place() = 0
        place() = 1
        near(0, 1, 9) = 0
        word(0, 1, 0) = 0
        word(1, 1, 0) = 1
        word(2, 1, 0) = 2
        word(3, 1, 0) = 3
        word(4, 1, 0) = 4
        word(5, 1, 0) = 5
        word(6, 1, 0) = 6
        """;

    public static void main(String[] args) {
        seeds();
        voices();
        rows();
        moves();
        images();
        imagesOfWords();
        telling();
        counting();
        errors();
        Script.end();
    }

    private static void seeds() {
        Script.run("34 seed", """
            seed(0) = 1
            seed(MIN) = 0
            seed(-1000001) = MIN
            seed(MAX) = -1000001
            count(8) = MAX
            told(1) = 0
            """);
    }

    /** A VOICE, and THE TRACE that it leaves. */
    private static String voiced(int word, int act, int x, int answer, int... bodies) {
        StringBuilder lines = new StringBuilder();
        lines.append("voice(" + word + ", " + act + ", " + x + ") = " + answer + "\n");
        for (int i = 0; i < bodies.length; i++) {
            lines.append("trace(" + i + ") = " + bodies[i] + "\n");
        }
        lines.append("trace(" + bodies.length + ") = NONE\n");
        lines.append("count(7) = " + bodies.length + "\n");
        return lines.toString();
    }

    private static void voices() {
        String lines = SEVEN
            + voiced(0, 0, 7, 7, 10) + voiced(0, 1, 7, 14, 11, 10) + voiced(0, 2, 7, -13, 12)
            + voiced(0, 3, 7, 14 ^ -13, 13, 11, 10, 12)
            + voiced(1, 0, 7, 6, 20, 10) + voiced(1, 1, 7, 12, 11, 20, 10) + voiced(1, 2, 7, -13, 12)
            + voiced(1, 3, 7, 12 ^ -13, 13, 11, 20, 10, 12)
            + voiced(2, 0, 7, 21, 31, 20, 10) + voiced(2, 1, 7, 42 - 19, 30, 11, 31, 20, 10, 12)
            + voiced(2, 3, 7, 23 ^ -13, 13, 30, 11, 31, 20, 10, 12, 12)
            + voiced(3, 0, 7, 10, 10) + voiced(3, 2, 7, 13, 40, 12) + voiced(3, 3, 7, 20 ^ 13, 13, 11, 10, 40, 12)
            + voiced(4, 0, 7, 11, 10) + voiced(4, 3, 7, 6 - (22 ^ -13), 50, 10, 13, 11, 10, 12)
            + voiced(5, 0, 7, 12, 10) + voiced(5, 1, 7, 24 ^ 5, 61, 11, 10) + voiced(5, 2, 7, 12, 60, 40, 12)
            + voiced(5, 3, 7, (24 ^ 5) ^ 12, 13, 61, 11, 10, 60, 40, 12)
            + voiced(6, 0, 7, 33, 70, 10) + voiced(6, 1, 7, 66, 11, 70, 10)
            + voiced(6, 3, 7, (66 ^ -13) * 5, 71, 13, 11, 70, 10, 12)
            + voiced(0, 1, Integer.MAX_VALUE, -2, 11, 10)
            + voiced(2, 0, Integer.MIN_VALUE, Integer.MIN_VALUE * 3, 31, 20, 10);
        Script.run("35, 36", "trace(0) = NONE\nvoice(0, 0, 0) = BEYOND\n" + lines + """
            # an ERROR leaves THE TRACE
            voice(7, 0, 0) = BEYOND
            voice(-1, 0, 0) = BEYOND
            voice(0, 4, 0) = BEYOND
            voice(0, -1, 0) = BEYOND
            count(7) = 3
            trace(0) = 31
            trace(-1) = NONE
            trace(MIN) = NONE
            trace(MAX) = NONE
            # the TERM as told then
            rule(0, 3) = 20
            word(0, 1, 0) = 7
            voice(7, 2, 7) = 4
            voice(0, 2, 7) = -13
            # an answer like an ERROR is none
            told(1) = 5
            voice(0, 0, -1000001) = -1000001
            told(1) = 5
            """);
    }

    private static void rows() {
        Script.run("37, 38", """
            put(0, 0, 0) = NONE
            put(4, 0, 0) = BEYOND
            put(-1, 0, 0) = BEYOND
            sheet(4, 8, 1) = BEYOND
            sheet(-1, 8, 1) = BEYOND
            sheet(0, 7, 1) = BEYOND
            sheet(0, 64, 1) = BEYOND
            sheet(0, -8, 1) = BEYOND
            sheet(4, 8, -1) = BEYOND
            sheet(0, 7, -1) = BEYOND
            sheet(0, 8, -1) = STATE
            sheet(0, 8, MIN) = STATE
            sheet(0, 8, 41) = BEYOND
            sheet(0, 8, MAX) = BEYOND
            put(0, 0, 0) = NONE
            told(3) = 2
            sheet(0, 8, 40) = 1
            put(0, 39, 5) = 1
            put(0, 40, 5) = BEYOND
            put(0, -1, 5) = BEYOND
            # an ERROR leaves it
            sheet(0, 8, 41) = BEYOND
            put(0, 39, 5) = 1
            sheet(3, 32, 0) = 1
            put(3, 0, 5) = BEYOND
            words(3) = 0
            # missing, whatever n
            sheet(0, 0, -1) = 1
            put(0, 0, 0) = NONE
            sheet(0, 0, MAX) = 1
            words(0) = NONE
            """);
        Script.run("37 all 0 anew", """
            place() = 0
            place() = 1
            near(0, 1, 1) = 0
            sheet(2, 16, 3) = 1
            put(2, 1, 1) = 1
            words(2) = 1
            sheet(2, 16, 3) = 1
            words(2) = 0
            # 16 bits: 65536 is 0, 256 is not
            put(2, 0, 65536) = 1
            put(2, 1, 65546) = 1
            words(2) = 1
            ofWord(1, 1) = 1
            put(2, 0, 256) = 1
            words(2) = 0
            """);
    }

    private static void moves() {
        Script.run("39 move", """
            place() = 0
            place() = 1
            near(0, 1, 1) = 0
            sheet(0, 8, 9) = 1
            move(0, 0, 4, 0, 1) = BEYOND
            move(-1, 0, 0, 0, 1) = BEYOND
            move(0, 0, 1, 0, 1) = NONE
            move(1, 0, 0, 0, 1) = NONE
            move(1, 0, 4, 0, 1) = BEYOND
            sheet(1, 16, 9) = 1
            move(0, 0, 1, 0, 1) = KIND
            move(0, -1, 1, 0, 1) = KIND
            sheet(1, 8, 4) = 1
            move(0, -1, 1, 0, 1) = BEYOND
            move(0, 0, 1, -1, 1) = BEYOND
            move(0, 0, 1, 0, -1) = BEYOND
            move(0, 0, 1, 0, 5) = BEYOND
            move(0, 0, 1, 1, 4) = BEYOND
            move(0, 6, 1, 0, 4) = BEYOND
            move(0, 5, 1, 0, 4) = 4
            move(0, 9, 1, 4, 0) = 0
            move(0, 10, 1, 0, 0) = BEYOND
            move(0, 0, 1, 5, 0) = BEYOND
            move(0, 1, 1, 0, MAX) = BEYOND
            move(0, MAX, 1, 0, 1) = BEYOND
            move(0, MAX, 1, MAX, MAX) = BEYOND
            told(5) = 2
            # over itself, up and down: as they all were
            put(0, 0, 1) = 1
            put(0, 1, 1) = 1
            put(0, 2, 2) = 1
            put(0, 3, 3) = 1
            put(0, 4, 10) = 1
            put(0, 5, 3) = 1
            move(0, 0, 0, 3, 6) = 6
            words(0) = 3
            ofWord(0, 0) = 1
            ofWord(1, 0) = 1
            ofWord(1, 1) = 0
            ofWord(2, 0) = 3
            ofWord(2, 1) = 1
            move(0, 3, 0, 0, 6) = 6
            words(0) = 3
            ofWord(3, 0) = 1
            ofWord(4, 0) = 3
            ofWord(5, 0) = 3
            # to another one, and no more than n
            move(0, 3, 1, 0, 3) = 3
            words(1) = 1
            ofWord(6, 0) = 3
            ofWord(6, 3) = 3
            """);
    }

    private static void images() {
        Script.run("40, 41", """
            restore() = NONE
            place() = 0
            place() = 1
            near(0, 1, 4) = 0
            word(1, 1, 0) = 0
            word(1, 1, 0) = 1
            rule(0, 7) = 20
            rule(1, 3) = 2
            loss(12) = 1
            seed(77) = -1770082073
            tape(3)
            text(0) = 1
            tape(4)
            text(7) = 1
            aim(0, 10) = 1
            pays(0, 5) = 0
            work(1, 2) = 0
            tell(0) = 1
            live(4) = 4
            tape(1+)
            image() = 1
            image() = 2
            # all is changed
            place() = 2
            near(0, 1, 9) = 4
            near(0, 2, 9) = 0
            rule(0, 8) = 7
            rule(1, 4) = 3
            loss(1) = 12
            word(2, 10, 0) = 6
            live(5) = 9
            text(5) = -12
            tape(9)
            text(0) = 1
            tape(9)
            text(7) = 1
            tape(9)
            text(1) = 1
            aim(0, -1) = 1
            aim(1, 0) = 1
            pays(0, 6) = 5
            work(3, 4) = 1
            tell(1) = 2
            sheet(0, 8, 4) = 1
            voice(0, 1, 1) = -2
            restore() = 4
            # SHEETS, THE TRACE, what told() tells stay
            put(0, 3, 1) = 1
            count(7) = 3
            told(2) = 1
            count(0) = 4
            count(1) = 2
            count(2) = 6
            count(4) = 1
            count(5) = 2
            count(6) = 1
            way(0, 1) = 4
            rule(0, 7) = 7
            rule(1, 3) = 3
            loss(12) = 12
            law(0, 0, 0) = 3
            law(1, 0, 0) = 0
            law(7, 0, 0) = 4
            pays(0, 5) = 5
            tell(8) = 2
            feed(49, 1) = 3
            text(2) = 1
            law(2, 0, 0) = 2
            live(1) = 5
            # 0 has an AIM again, 1 has none
            count(2) = 7
            ofWord(6, 0) = 3
            ofWord(6, 1) = 0
            # the IMAGE stays
            restore() = 4
            count(2) = 6
            place() = 2
            image() = 3
            restore() = 4
            count(1) = 3
            """);
        Script.run("40 a LOST one is kept as such", """
            place() = 0
            place() = 1
            near(0, 1, 4) = 0
            word(1, 1, 0) = 0
            word(1, 1, 0) = 1
            lose(0) = 1
            image() = 1
            lose(1) = 1
            count(3) = 2
            restore() = 0
            count(3) = 1
            came(1, 0, 4) = 1
            ofWord(0, 5) = -1
            ofWord(1, 5) = 4
            seed(4) = -1770082073
            restore() = 0
            count(8) = -1770082073
            """);
    }

    private static void imagesOfWords() {
        String before = """
            place() = 0
            place() = 1
            place() = 2
            near(0, 1, 4) = 0
            near(1, 2, 1) = 0
            work(1, 2) = 0
            work(5, 9) = 1
            pays(73, 9) = 0
            tell(0) = 1
            tell(1) = 2
            image() = 1
            """;
        StringBuilder lines = new StringBuilder(before);
        // Other WORDS, WORKS, numbers that wait take the places of those that come after the IMAGE.
        lines.append("word(1, 1, 0) = 0\nword(3, 21, 3) = 1\nlive(1) = 1\nword(0, 12, 0) = 2\nlive(3) = 4\n");
        lines.append("rule(0, 9) = 20\nword(2, 10, 0) = 3\nimage() = 2\nrestore() = 4\nrestore() = 4\n");
        lines.append("near(0, 1, 9) = 4\nnear(1, 2, 3) = 1\nplace() = 3\nwork(7, 7) = 2\npays(73, 1) = 9\n");
        lines.append("lose(3) = 1\nword(6, 1, 1) = 4\ncheck(0, 0) = 1\ntell(7) = 1\n");
        lines.append("restore() = 4\n");
        int[][] due = {{1, 0, 1, 0, 0, 4, 20, 1}, {3, 2, 1, 3, 0, 1, 20, 1}, {0, 1, 2, 0, 1, 2, 20, 1}, {2, 1, 0, 0, 4, 8, 9, 2}};
        StringBuilder words = new StringBuilder();
        for (int word = 0; word < due.length; word++) {
            for (int what = 0; what < 8; what++) {
                words.append("ofWord(" + word + ", " + what + ") = " + due[word][what] + "\n");
            }
        }
        Script.run("40, 41 WORDS", lines + words.toString() + """
            ofWord(4, 0) = BEYOND
            count(6) = 2
            # numbers 0 and 1 wait, but 0 and 2 are due
            check(2, 0) = 1
            near(0, 1, 4) = 4
            near(1, 2, 1) = 1
            blind(1, 58) = 1
            blind(1, 59) = 0
            edge(1, 9) = 6
            edge(0, 9) = 5
            pays(73, 0) = 9
            live(4) = 8
            made(0, 1, 0) = 8
            tell(3) = 1
            check(0, 0) = 0
            restore() = 4
            tell(5) = 3
            check(2, 0) = 1
            """);
        Script.run("41 into a state with other WORDS", """
            place() = 0
            place() = 1
            near(0, 1, 2) = 0
            rule(0, 4) = 20
            word(1, 1, 2) = 0
            live(2) = 2
            word(2, 10, 2) = 1
            image() = 1
            restore() = 2
            live(3) = 5
            image() = 2
            word(3, 1, 2) = 2
            restore() = 5
            ofWord(2, 0) = BEYOND
            word(4, 10, 1) = 2
            ofWord(2, 0) = 4
            ofWord(2, 1) = 1
            ofWord(2, 3) = 1
            stance(0, 2, 5) = 2
            stance(1, 2, 5) = 2
            made(0, 1, 2) = 4
            """);
    }

    private static void telling() {
        StringBuilder twenty = new StringBuilder();
        for (int i = 1; i <= 20; i++) {
            twenty.append("tell(").append(-i).append(") = ").append(i).append('\n');
        }
        Script.run("42 tell", twenty + """
            tell(0) = FULL
            count(6) = 20
            tell(MIN) = FULL
            check(0, 0) = BEYOND
            count(6) = 0
            tell(MAX) = 1
            """);
        Script.run("43 check", """
            place() = 0
            place() = 1
            place() = 2
            near(0, 1, 5) = 0
            near(2, 1, 1) = 0
            check(1, 0) = 0
            tell(0) = 1
            check(1, 0) = 1
            word(6, 1, 0) = 0
            word(0, 1, 0) = 1
            word(0, 1, 1) = 2
            live(4) = 4
            word(0, 21, 0) = 3
            word(0, 21, 0) = 4
            word(0, 21, 0) = 5
            lose(4) = 1
            near(0, 1, 1) = 5
            word(0, 1, 0) = 6
            live(1) = 5
            # in 5: 1, 3, 5, 6; in 7: 0
            check(1, 0) = 1
            tell(1) = 1
            tell(3) = 2
            tell(5) = 3
            check(1, 0) = 4
            tell(1) = 1
            tell(3) = 2
            tell(5) = 3
            tell(6) = 4
            check(1, 0) = 0
            tell(1) = 1
            tell(3) = 2
            tell(5) = 3
            tell(6) = 4
            tell(0) = 5
            check(1, 0) = 5
            count(6) = 0
            tell(1) = 1
            tell(5) = 2
            tell(3) = 3
            tell(6) = 4
            check(1, 0) = 2
            live(2) = 7
            tell(1) = 1
            tell(3) = 2
            tell(5) = 3
            tell(6) = 4
            tell(0) = 5
            check(1, 0) = 0
            tell(2) = 1
            check(1, 1) = 0
            tell(2) = 1
            check(1, 2) = 1
            check(0, 0) = 0
            # BEYOND: none wait then, too
            tell(1) = 1
            check(3, 0) = BEYOND
            count(6) = 0
            tell(1) = 1
            check(-1, 0) = BEYOND
            tell(1) = 1
            check(0, 4) = BEYOND
            tell(1) = 1
            check(0, -1) = BEYOND
            count(6) = 0
            """);
    }

    private static void counting() {
        Script.run("44 count", """
            count(-1) = BEYOND
            count(9) = BEYOND
            count(MAX) = BEYOND
            place() = 0
            place() = 1
            place() = 2
            near(0, 1, 2) = 0
            word(1, 1, 0) = 0
            word(2, 1, 0) = 1
            lose(1) = 1
            work(1, 1) = 0
            tell(1) = 1
            feed(0, 3) = 3
            live(6) = 6
            voice(1, 3, 0) = 11
            count(0) = 6
            count(1) = 3
            count(2) = 2
            count(3) = 1
            count(4) = 1
            count(5) = 3
            count(6) = 1
            count(7) = 8
            count(8) = -1770082073
            """);
    }

    private static void errors() {
        Script.run("45 told", """
            told(0) = BEYOND
            told(6) = BEYOND
            told(-1) = BEYOND
            told(MIN) = BEYOND
            told(1) = 4
            told(2) = 0
            restore() = NONE
            told(2) = 1
            sheet(0, 8, -1) = STATE
            told(3) = 1
            odds(0, 0, 0) = BEYOND
            heirs(9, 9, 9) = BEYOND
            told(1) = 6
            place() = 0
            place() = 1
            place() = 2
            place() = 3
            place() = 4
            place() = 5
            3x place() = FULL
            told(4) = 3
            near(0, 1, 1) = 0
            word(0, 1, 0) = 0
            2x as(0, 6) = KIND
            told(5) = 2
            image() = 1
            2x as(0, 6) = KIND
            restore() = 0
            told(5) = 4
            # a FAULT is no ERROR
            text(0) = -10
            told(1) = 6
            """);
    }
}
