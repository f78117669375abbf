/** Promises 1 to 16. */
public final class PlacesAndWordsTest {
    private PlacesAndWordsTest() { }

    private static final String THREE = """
        place() = 0
        place() = 1
        place() = 2
        near(0, 1, 9) = 0
        near(1, 2, 4) = 0
        """;

    public static void main(String[] args) {
        news();
        roads();
        routes();
        rules();
        losses();
        sending();
        losing();
        kinds();
        sheets();
        stances();
        terms();
        yeses();
        pacts();
        depths();
        sixPlaces();
        Script.end();
    }

    private static void news() {
        Script.run("1 a new object", """
            count(0) = 0
            count(1) = 0
            count(2) = 0
            count(3) = 0
            count(4) = 0
            count(5) = 0
            count(6) = 0
            count(7) = 0
            count(8) = 1
            told(1) = 0
            told(2) = 0
            told(3) = 0
            told(4) = 0
            told(5) = 0
            rule(0, 20) = 20
            rule(1, 2) = 2
            loss(1) = 1
            seed(1) = 1
            restore() = NONE
            words(0) = NONE
            words(3) = NONE
            way(0, 0) = BEYOND
            edge(0, 1) = BEYOND
            law(0, 7, 7) = 0
            law(7, 7, 7) = 0
            rest(0) = 15
            trace(0) = NONE
            """);
    }

    private static void roads() {
        Script.run("2, 3, 4", """
            place() = 0
            near(0, 1, 1) = BEYOND
            place() = 1
            near(0, 1, 30) = 0
            near(1, 0, 1) = 30
            near(0, 1, 30) = 1
            near(0, 1, 31) = BEYOND
            near(0, 1, -1) = BEYOND
            near(1, 1, 3) = BEYOND
            near(-1, 0, 3) = BEYOND
            near(0, 2, 3) = BEYOND
            near(0, 1, 5) = 30
            way(0, 1) = 5
            way(1, 0) = 5
            way(1, 1) = 0
            place() = 2
            way(0, 2) = NONE
            way(2, 2) = 0
            place() = 3
            place() = 4
            place() = 5
            2x place() = FULL
            count(1) = 6
            told(4) = 2
            # the far ends of a row of five roads of 30
            near(0, 1, 30) = 5
            near(1, 2, 30) = 0
            near(2, 3, 30) = 0
            near(3, 4, 30) = 0
            near(4, 5, 30) = 0
            way(5, 0) = 150
            way(6, 0) = BEYOND
            way(0, -1) = BEYOND
            near(2, 3, 0) = 30
            near(2, 3, 0) = 0
            way(0, 5) = NONE
            way(0, 2) = 60
            """);
    }

    private static void routes() {
        Script.run("5 ROUTE", """
            place() = 0
            place() = 1
            place() = 2
            place() = 3
            place() = 4
            route(0, 4, -1) = NONE
            route(0, 0, -1) = 1
            route(0, 0, 0) = 0
            route(0, 0, 1) = NONE
            # 0-1-2-4 and 0-3-4 are both 6 years: the fewest PLACES
            near(0, 1, 2) = 0
            near(1, 2, 2) = 0
            near(2, 4, 2) = 0
            near(0, 3, 3) = 0
            near(3, 4, 3) = 0
            way(0, 4) = 6
            route(0, 4, -1) = 3
            route(0, 4, 1) = 3
            route(0, 4, 2) = 4
            route(0, 4, 3) = NONE
            route(0, 4, MAX) = NONE
            route(0, 4, -2) = BEYOND
            route(0, 4, MIN) = BEYOND
            route(0, 5, 0) = BEYOND
            # as long, by the least second PLACE
            near(1, 4, 4) = 0
            route(0, 4, -1) = 3
            route(0, 4, 1) = 1
            route(4, 0, 1) = 1
            # shorter, though by more PLACES
            near(3, 4, 0) = 3
            near(1, 4, 0) = 4
            route(0, 4, -1) = 4
            route(0, 4, 0) = 0
            route(0, 4, 1) = 1
            route(0, 4, 2) = 2
            route(0, 4, 3) = 4
            route(4, 0, 1) = 2
            # a straight road of the same years has fewer PLACES
            near(0, 4, 6) = 0
            route(0, 4, -1) = 2
            route(0, 4, 1) = 4
            """);
        Script.run("5 the least third PLACE, seen from each end", """
            place() = 0
            place() = 1
            place() = 2
            place() = 3
            place() = 4
            place() = 5
            # 5-1-4-0 and 5-2-3-0 and 5-1-3-0
            near(5, 1, 1) = 0
            near(5, 2, 1) = 0
            near(1, 4, 1) = 0
            near(2, 3, 1) = 0
            near(1, 3, 1) = 0
            near(4, 0, 1) = 0
            near(3, 0, 1) = 0
            route(5, 0, -1) = 4
            route(5, 0, 1) = 1
            route(5, 0, 2) = 3
            route(0, 5, 1) = 3
            route(0, 5, 2) = 1
            near(1, 3, 0) = 1
            route(5, 0, 1) = 1
            route(5, 0, 2) = 4
            route(0, 5, 1) = 3
            route(0, 5, 2) = 2
            """);
    }

    private static void rules() {
        Script.run("6 rule", """
            rule(0, 0) = 20
            rule(0, 99) = 0
            rule(0, 100) = BEYOND
            rule(0, -1) = BEYOND
            rule(0, 5) = 99
            rule(1, 9) = 2
            rule(1, 10) = BEYOND
            rule(1, 1) = BEYOND
            rule(1, 2) = 9
            rule(2, 5) = BEYOND
            rule(-1, 5) = BEYOND
            told(1) = 6
            """);
    }

    private static void losses() {
        Script.run("7 loss", THREE + """
            loss(99) = 1
            loss(9) = 99
            loss(10) = BEYOND
            loss(0) = BEYOND
            loss(-1) = BEYOND
            loss(-9) = BEYOND
            loss(21) = BEYOND
            loss(101) = BEYOND
            loss(109) = BEYOND
            loss(MAX) = BEYOND
            loss(MIN) = BEYOND
            word(0, 1, 0) = 0
            ofWord(0, 5) = 9
            loss(11) = 9
            word(0, 1, 0) = 1
            ofWord(1, 5) = -1
            loss(12) = 11
            # z is 1, 1103527590, 2524885223, ..: a draw of a third WORD
            seed(1) = -1770082073
            word(0, 1, 0) = 2
            count(8) = 1103527590
            # 1103527590 >>> 8 is 4310654, which is even: 0 of 2 is below 1
            ofWord(2, 5) = -1
            loss(13) = 12
            seed(1) = 1103527590
            # 4310654 has the rest 2 by 3
            word(0, 1, 0) = 3
            ofWord(3, 5) = 9
            loss(23) = 13
            seed(1) = 1103527590
            word(0, 1, 0) = 4
            ofWord(4, 5) = 9
            loss(33) = 23
            seed(1) = 1103527590
            word(0, 1, 0) = 5
            ofWord(5, 5) = -1
            # z below 0: its highest bits are no sign
            loss(12) = 33
            seed(1103527590) = 1103527590
            word(0, 1, 0) = 6
            count(8) = -1770082073
            # 2524885223 >>> 8 is 9862832
            ofWord(6, 5) = -1
            """);
    }

    private static void sending() {
        Script.run("8, 9", THREE + """
            place() = 3
            word(-1, 1, 0) = BEYOND
            word(7, 1, 0) = BEYOND
            word(0, 0, 0) = BEYOND
            word(0, 11, 0) = BEYOND
            word(0, 4, 0) = BEYOND
            word(0, 40, 0) = BEYOND
            word(0, 9, 0) = BEYOND
            word(0, -1, 0) = BEYOND
            word(0, -10, 0) = BEYOND
            word(0, MIN, 0) = BEYOND
            word(0, MAX, 0) = BEYOND
            word(0, 101, 0) = BEYOND
            word(0, 1, 4) = BEYOND
            word(0, 1, -1) = BEYOND
            word(0, 3, 0) = NONE
            count(2) = 0
            count(8) = 1
            live(7) = 7
            rule(0, 33) = 20
            word(2, 20, 3) = 0
            rule(0, 5) = 33
            near(1, 2, 5) = 4
            ofWord(0, 0) = 2
            ofWord(0, 1) = 2
            ofWord(0, 2) = 0
            ofWord(0, 3) = 3
            ofWord(0, 4) = 7
            ofWord(0, 5) = 20
            ofWord(0, 6) = 33
            ofWord(0, 7) = 1
            ofWord(0, 8) = BEYOND
            ofWord(0, -1) = BEYOND
            ofWord(1, 0) = BEYOND
            ofWord(-1, 0) = BEYOND
            # a LATE one, and the WAY as it is now
            word(6, 20, 3) = 1
            ofWord(1, 5) = 23
            came(0, 3, 19) = 0
            came(0, 3, 22) = 1
            came(0, 3, 23) = 2
            """);
        Script.run("8 at most 80", """
            place() = 0
            place() = 1
            place() = 2
            near(0, 1, 1) = 0
            sheet(0, 8, 40) = 1
            """ + tenWords() + """
            6x words(0) = 13
            count(2) = 78
            words(0) = 2
            words(0) = 0
            count(2) = 80
            word(0, 1, 0) = FULL
            word(0, 2, 0) = NONE
            word(7, 1, 0) = BEYOND
            told(4) = 1
            ofWord(79, 0) = 1
            ofWord(80, 0) = BEYOND
            # no room: a YEAR is LIVED without a WORD, and without a draw
            tape(1)
            text(0) = 1
            aim(0, 10) = 1
            seed(5) = -1286672079
            live(2) = 2
            count(2) = 80
            count(8) = 5
            """);
        Script.run("8 beyond the last YEAR", """
            place() = 0
            place() = 1
            near(0, 1, 30) = 0
            live(50) = 50
            live(50) = 100
            live(50) = 150
            live(50) = 200
            live(50) = 250
            live(50) = 300
            live(50) = 350
            live(40) = 390
            word(1, 1, 0) = 0
            ofWord(0, 5) = 420
            came(1, 0, 399) = 0
            lose(0) = 1
            ofWord(0, 5) = -1
            """);
    }

    private static String tenWords() {
        StringBuilder lines = new StringBuilder();
        for (int i = 0; i < 13; i++) {
            lines.append("put(0, ").append(3 * i).append(", 1) = 1\n");
            lines.append("put(0, ").append(3 * i + 1).append(", 1) = 1\n");
        }
        return lines.toString();
    }

    private static void losing() {
        Script.run("10 lose", THREE + """
            lose(0) = BEYOND
            word(1, 1, 0) = 0
            word(1, 1, 0) = 1
            word(1, 1, 0) = 2
            lose(3) = BEYOND
            lose(-1) = BEYOND
            lose(1) = 1
            lose(1) = STATE
            ofWord(1, 5) = -1
            count(3) = 1
            came(1, 0, 399) = 2
            live(8) = 8
            lose(0) = 1
            live(1) = 9
            # in NOW it COMES
            lose(2) = STATE
            live(1) = 10
            lose(2) = STATE
            came(1, 0, 399) = 1
            count(3) = 2
            count(2) = 3
            told(3) = 3
            # who sent it is bound by it all the same
            stance(0, 0, 10) = 1
            """);
    }

    private static void kinds() {
        String kinds = THREE;
        for (int kind = 0; kind < 7; kind++) {
            kinds += "rule(0, " + (30 + kind) + ") = " + (kind == 0 ? 20 : 29 + kind) + "\n";
            kinds += "word(" + kind + ", 1, 0) = " + kind + "\n";
        }
        String[] under = {"0", "01", "012", "03", "04", "035", "06"};
        for (int word = 0; word < 7; word++) {
            for (int kind = 0; kind < 7; kind++) {
                boolean is = under[word].indexOf('0' + kind) >= 0;
                kinds += "as(" + word + ", " + kind + ") = " + (is ? 30 + word : "KIND") + "\n";
            }
        }
        Script.run("11 as", kinds + """
            told(5) = 34
            as(7, 0) = BEYOND
            as(-1, 0) = BEYOND
            as(0, 7) = BEYOND
            as(0, -1) = BEYOND
            """);
    }

    private static void sheets() {
        Script.run("12 words", THREE + """
            words(-1) = BEYOND
            words(4) = BEYOND
            words(1) = NONE
            sheet(1, 16, 0) = 1
            words(1) = 0
            sheet(1, 16, 2) = 1
            words(1) = 0
            sheet(1, 16, 11) = 1
            # the first three are 0, 0, 0: PLACE 0 twice
            words(1) = 0
            told(1) = 2
            put(1, 0, 65541) = 1
            put(1, 1, 12) = 1
            put(1, 2, 3) = 1
            put(1, 3, 6) = 1
            put(1, 4, 21) = 1
            put(1, 5, 2) = 1
            put(1, 6, 1) = 1
            put(1, 7, 1) = 1
            put(1, 8, 1) = 1
            words(1) = 3
            ofWord(0, 0) = 5
            ofWord(0, 1) = 1
            ofWord(0, 2) = 2
            ofWord(0, 3) = 3
            ofWord(1, 0) = 6
            ofWord(1, 5) = 6
            ofWord(2, 0) = 1
            # up to the first ERROR, which isn't told
            put(1, 5, 4) = 1
            words(1) = 1
            put(1, 2, -1) = 1
            words(1) = 0
            count(2) = 4
            told(1) = 2
            # each that is sent makes a draw
            seed(1) = -999580867
            put(1, 2, 0) = 1
            words(1) = 1
            count(8) = 1103527590
            """);
        Script.run("12 with no WAY, and what is cut off", """
            place() = 0
            place() = 1
            place() = 2
            near(0, 1, 1) = 0
            sheet(0, 8, 9) = 1
            put(0, 0, 257) = 1
            put(0, 1, 257) = 1
            put(0, 2, 256) = 1
            put(0, 3, 1) = 1
            put(0, 4, 2) = 1
            words(0) = 1
            ofWord(0, 0) = 1
            ofWord(0, 2) = 1
            told(2) = 0
            sheet(1, 32, 3) = 1
            put(1, 0, 257) = 1
            put(1, 1, 1) = 1
            words(1) = 0
            """);
    }

    private static void stances() {
        // What each KIND makes of each STANCE, as it is sent and as it COMES.
        String[] to = {"", "word(1, 1, 0)", "word(1, 1, 0) word(2, 10, 0)", "word(5, 1, 0)"};
        int[][] sent = {{0, 1, 2, 3}, {1, 1, 2, 3}, {1, 1, 2, 3}, {0, 1, 3, 3}, {0, 0, 0, 3}, {3, 3, 3, 3}, {0, 1, 2, 3}};
        int[][] came = {{0, 1, 2, 3}, {0, 1, 2, 3}, {0, 2, 2, 3}, {0, 1, 2, 3}, {0, 0, 0, 3}, {0, 1, 2, 3}, {0, 1, 2, 3}};
        for (int kind = 0; kind < 7; kind++) {
            for (int stance = 0; stance < 4; stance++) {
                int words = to[stance].isEmpty() ? 0 : to[stance].split(" word").length;
                StringBuilder lines = new StringBuilder("place() = 0\nplace() = 1\nplace() = 2\n"
                    + "near(0, 1, 1) = 0\nnear(0, 2, 1) = 0\nnear(1, 2, 1) = 0\n");
                int number = 0;
                for (String word : to[stance].split("(?= word)")) {
                    if (!word.isBlank()) {
                        lines.append(word.strip()).append(" = ").append(number++).append('\n');
                    }
                }
                lines.append("live(1) = 1\nstance(0, 0, 1) = ").append(stance).append('\n');
                lines.append("word(" + kind + ", 2, 0) = " + words + "\n");
                lines.append("stance(0, 0, 1) = " + sent[kind][stance] + "\n");
                Script.run("14 SENT of KIND " + kind + " at " + stance, lines.toString());
                lines.setLength(lines.length() - ("stance(0, 0, 1) = 0\n").length());
                String before = lines.substring(0, lines.lastIndexOf("word("));
                String coming = kind == 6 ? "live(2) = 3\nstance(0, 0, 3) = " + stance + "\nlive(1) = 4\nstance(0, 0, 4) = "
                    : "live(1) = 2\nstance(0, 0, 2) = ";
                Script.run("14 CAME of KIND " + kind + " at " + stance, before + "word(" + kind + ", 20, 0) = " + words
                    + "\nstance(0, 0, 1) = " + stance + "\n" + coming + came[kind][stance] + "\n");
            }
        }
        Script.run("14 what is asked", THREE + """
            stance(2, 3, 0) = 0
            stance(3, 0, 0) = BEYOND
            stance(-1, 0, 0) = BEYOND
            stance(0, 4, 0) = BEYOND
            stance(0, -1, 0) = BEYOND
            stance(0, 0, 1) = BEYOND
            stance(0, 0, -1) = BEYOND
            live(3) = 3
            stance(0, 0, 3) = 0
            stance(0, 0, 4) = BEYOND
            word(1, 1, 2) = 0
            stance(0, 2, 3) = 1
            stance(0, 2, 2) = 0
            stance(0, 1, 3) = 0
            stance(1, 2, 3) = 0
            """);
    }

    private static void terms() {
        Script.run("14 TERM", """
            place() = 0
            place() = 1
            near(0, 1, 3) = 0
            rule(0, 2) = 20
            word(1, 1, 0) = 0
            # more offers leave it 1 by the first
            live(1) = 1
            word(1, 1, 0) = 1
            live(1) = 2
            stance(0, 0, 2) = 1
            live(1) = 3
            stance(0, 0, 3) = 0
            word(1, 1, 0) = 2
            stance(0, 0, 3) = 1
            # what COMES in the YEAR after the TERM finds it free
            word(2, 10, 0) = 3
            live(3) = 6
            stance(0, 0, 5) = 1
            stance(0, 0, 6) = 0
            # a TERM of 0 holds in its own YEAR
            rule(0, 0) = 2
            word(1, 1, 1) = 4
            stance(0, 1, 6) = 1
            live(1) = 7
            stance(0, 1, 7) = 0
            # bound is not over with the TERM
            rule(0, 3) = 0
            word(1, 1, 2) = 5
            word(2, 10, 2) = 6
            stance(1, 2, 7) = 1
            live(3) = 10
            stance(0, 2, 10) = 2
            # the OFFER has COME and is not over: 7 and 3
            word(2, 10, 2) = 7
            stance(1, 2, 10) = 2
            live(50) = 60
            stance(0, 2, 60) = 2
            stance(1, 2, 60) = 2
            """);
    }

    private static void yeses() {
        Script.run("14 YES", """
            place() = 0
            place() = 1
            place() = 2
            near(0, 1, 2) = 0
            near(0, 2, 2) = 0
            near(1, 2, 2) = 0
            rule(0, 4) = 20
            word(1, 1, 0) = 0
            live(1) = 1
            # not yet come
            word(2, 10, 0) = 1
            stance(1, 0, 1) = 1
            live(1) = 2
            # to another PLACE than that from which it came
            word(2, 12, 0) = 2
            stance(1, 0, 2) = 1
            # about another PACT
            word(2, 10, 1) = 3
            stance(1, 1, 2) = 1
            live(2) = 4
            # in the last YEAR of the TERM
            image() = 1
            word(2, 10, 0) = 4
            stance(1, 0, 4) = 2
            restore() = 4
            live(1) = 5
            word(2, 10, 0) = 4
            stance(1, 0, 5) = 1
            # a YES is an OFFER, too: that of number 1 came to 0 in 3
            word(2, 1, 0) = 5
            stance(0, 0, 5) = 2
            """);
        Script.run("14 a lost OFFER, and one that COMES in the YEAR of the YES", """
            place() = 0
            place() = 1
            near(0, 1, 2) = 0
            word(1, 1, 0) = 0
            lose(0) = 1
            live(2) = 2
            word(2, 10, 0) = 1
            stance(1, 0, 2) = 1
            word(1, 1, 1) = 2
            live(2) = 4
            word(2, 10, 1) = 3
            stance(1, 1, 4) = 2
            # first what COMES, then what is sent: bound by the YES, then free by BACK
            word(1, 1, 2) = 4
            word(2, 10, 2) = 5
            live(2) = 6
            word(4, 1, 2) = 6
            stance(0, 2, 6) = 0
            stance(0, 2, 5) = 1
            # by numbers: BACK first, then an OFFER
            word(1, 1, 2) = 7
            stance(0, 2, 6) = 1
            """);
    }

    private static void pacts() {
        Script.run("15 made", """
            place() = 0
            place() = 1
            place() = 2
            near(0, 1, 2) = 0
            made(0, 0, 0) = BEYOND
            made(0, 3, 0) = BEYOND
            made(-1, 0, 0) = BEYOND
            made(0, 1, 4) = BEYOND
            made(0, 1, -1) = BEYOND
            made(0, 2, 0) = NONE
            word(1, 1, 0) = 0
            live(2) = 2
            word(2, 10, 0) = 1
            made(0, 1, 0) = NONE
            live(1) = 3
            made(0, 1, 0) = NONE
            live(1) = 4
            made(0, 1, 0) = 4
            made(1, 0, 0) = 4
            made(0, 1, 1) = NONE
            # later BACK leaves the first YEAR
            live(1) = 5
            word(4, 1, 0) = 2
            stance(0, 0, 5) = 0
            made(0, 1, 0) = 4
            # in NOW, as it is so far
            word(5, 1, 1) = 3
            word(5, 10, 1) = 4
            made(0, 1, 1) = 5
            # bound and free again within one YEAR is not made
            word(1, 1, 2) = 5
            live(2) = 7
            word(2, 10, 2) = 6
            live(2) = 9
            word(4, 1, 2) = 7
            made(0, 1, 2) = NONE
            told(2) = 5
            """);
        Script.run("15 never at once", """
            place() = 0
            place() = 1
            near(0, 1, 5) = 0
            word(5, 1, 2) = 0
            word(5, 10, 2) = 1
            made(0, 1, 2) = 0
            came(0, 2, 0) = 0
            word(5, 1, 3) = 2
            word(1, 10, 3) = 3
            live(5) = 5
            word(2, 1, 3) = 4
            live(5) = 10
            made(0, 1, 3) = 10
            stance(1, 3, 0) = 1
            stance(0, 2, 0) = 3
            made(0, 1, 2) = 0
            """);
    }

    private static void depths() {
        Script.run("13, 16, and DEPTH", """
            place() = 0
            place() = 1
            place() = 2
            near(0, 1, 1) = 0
            near(0, 2, 3) = 0
            near(1, 2, 1) = 0
            word(0, 1, 0) = 0
            ofWord(0, 7) = 1
            live(1) = 1
            word(0, 10, 0) = 1
            ofWord(1, 7) = 2
            word(0, 10, 1) = 2
            ofWord(2, 7) = 1
            live(1) = 2
            word(0, 2, 0) = 3
            ofWord(3, 7) = 3
            lose(3) = 1
            ofWord(3, 7) = 3
            knows(2, 0, 399) = 0
            knows(0, 0, 0) = 0
            knows(0, 0, 1) = 0
            knows(0, 0, 2) = 2
            knows(1, 0, 0) = 0
            knows(1, 0, 1) = 1
            knows(0, 1, 2) = 1
            knows(0, 1, 399) = 1
            # sent in the same YEAR in which one COMES
            word(0, 1, 0) = 4
            ofWord(4, 7) = 3
            live(1) = 3
            word(0, 12, 0) = 5
            ofWord(5, 7) = 4
            knows(2, 0, 3) = 0
            knows(2, 0, 4) = 4
            came(2, 0, 3) = 0
            came(2, 0, 4) = 1
            came(1, 0, 2) = 1
            came(1, 0, 3) = 2
            came(1, 1, 399) = 0
            knows(3, 0, 0) = BEYOND
            knows(-1, 0, 0) = BEYOND
            knows(0, 4, 0) = BEYOND
            knows(0, -1, 0) = BEYOND
            knows(0, 0, 400) = BEYOND
            knows(0, 0, -1) = BEYOND
            came(3, 0, 0) = BEYOND
            came(-1, 0, 0) = BEYOND
            came(0, 4, 0) = BEYOND
            came(0, -1, 0) = BEYOND
            came(0, 0, 400) = BEYOND
            came(0, 0, -1) = BEYOND
            told(1) = 12
            """);
    }

    private static void sixPlaces() {
        StringBuilder lines = new StringBuilder();
        for (int i = 0; i < 6; i++) {
            lines.append("place() = ").append(i).append('\n');
        }
        for (int i = 1; i < 6; i++) {
            lines.append("near(0, ").append(i).append(", ").append(i).append(") = 0\n");
        }
        int word = 0;
        for (int from = 0; from < 6; from++) {
            for (int to = 0; to < 6; to++) {
                int ft = 10 * from + to;
                if (from != to) {
                    lines.append("word(4, " + ft + ", 2) = " + word + "\n");
                    lines.append("ofWord(" + word + ", 1) = " + from + "\n");
                    lines.append("ofWord(" + word + ", 2) = " + to + "\n");
                    lines.append("ofWord(" + word + ", 5) = " + (from + to) + "\n");
                    lines.append("soon(" + ft + ", 1, 0) = " + (from + to) + "\n");
                    lines.append("goods(" + ft + ", 1000, 99) = 1\n");
                    lines.append("route(" + from + ", " + to + ", -1) = " + (from * to == 0 ? 2 : 3) + "\n");
                    word++;
                } else {
                    lines.append("word(4, " + ft + ", 2) = BEYOND\n");
                }
            }
        }
        Script.run("all pairs of six", lines + """
            word(4, 6, 0) = BEYOND
            word(4, 60, 0) = BEYOND
            word(4, 49, 0) = BEYOND
            # what COMES to 3: 3 from 0 in 3, then from 1, 2, 4, 5
            live(20) = 20
            came(3, 2, 3) = 1
            came(3, 2, 20) = 5
            tell(2) = 1
            tell(7) = 2
            tell(12) = 3
            tell(23) = 4
            tell(28) = 5
            check(3, 2) = 0
            """);
        Script.run("one COMES ahead of those sent before", """
            place() = 0
            place() = 1
            near(0, 1, 9) = 0
            word(0, 1, 0) = 0
            word(1, 1, 0) = 1
            near(0, 1, 5) = 9
            word(2, 1, 0) = 2
            word(6, 1, 0) = 3
            near(0, 1, 1) = 5
            word(4, 1, 0) = 4
            live(30) = 30
            tell(4) = 1
            tell(2) = 2
            tell(3) = 3
            tell(0) = 4
            tell(1) = 5
            check(1, 0) = 0
            came(1, 0, 5) = 2
            came(1, 0, 7) = 3
            """);
    }
}
