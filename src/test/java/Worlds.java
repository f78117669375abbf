/** Lines of Scripts that many tests begin with. */
final class Worlds {
    /** Two PLACES, one year apart. */
    static final String TWO = """
        place() = 0
        place() = 1
        near(0, 1, 1) = 0
        """;

    /** Three PLACES, each one year from each other one. */
    static final String THREE = """
        place() = 0
        place() = 1
        place() = 2
        near(0, 1, 1) = 0
        near(0, 2, 1) = 0
        near(1, 2, 1) = 0
        """;

    /** Six PLACES in a row, each one year from the next. */
    static final String SIX = """
        place() = 0
        place() = 1
        place() = 2
        place() = 3
        place() = 4
        place() = 5
        near(0, 1, 1) = 0
        near(1, 2, 1) = 0
        near(2, 3, 1) = 0
        near(3, 4, 1) = 0
        near(4, 5, 1) = 0
        """;

    /** The first 350 YEARS, LIVED on a new object. */
    static final String TO_350 = """
        live(50) = 50
        live(50) = 100
        live(50) = 150
        live(50) = 200
        live(50) = 250
        live(50) = 300
        live(50) = 350
        """;

    /**
     * In YEAR 2: PLACES 0, 1, 2, and 3 with no WAY; WORDS 0 to 4, of which 0 and 1 have COME, 4 is LOST;
     * nothing is as at first, and an IMAGE has other things.
     */
    static final String RICH = """
        place() = 0
        place() = 1
        place() = 2
        place() = 3
        near(0, 1, 2) = 0
        near(1, 2, 3) = 0
        rule(0, 30) = 20
        seed(77) = 1
        word(1, 1, 0) = 0
        word(2, 10, 1) = 1
        image() = 1
        rule(0, 12) = 30
        rule(1, 3) = 2
        live(2) = 2
        word(5, 12, 0) = 2
        word(6, 21, 3) = 3
        word(0, 1, 0) = 4
        lose(4) = 1
        loss(13) = 1
        tape(1)
        text(0) = 1
        tape(3+c*0)
        text(1) = 1
        tape(o<t)
        text(6) = 1
        aim(0, 10) = 1
        aim(1, 2) = 1
        pays(0, 5) = 0
        pays(73, -5) = 0
        work(1, 2) = 0
        work(5, 9) = 1
        tell(0) = 1
        sheet(0, 8, 7) = 1
        put(0, 0, 3) = 1
        put(0, 1, 10) = 1
        put(0, 2, 2) = 1
        put(0, 4, 1) = 1
        sheet(1, 16, 6) = 1
        put(1, 1, 1) = 1
        sheet(2, 8, 3) = 1
        put(2, 0, 2) = 1
        put(2, 1, 1) = 1
        voice(1, 1, 5) = -5
        tape(1+)
        """;

    /**
     * In YEAR 399: 6 PLACES (5 with no WAY), 80 WORDS, 8 WORKS, 50 bytes, 20 numbers that wait, a SHEET of
     * 40 numbers: there is no room for more of any.
     */
    static final String FULL = """
        place() = 0
        place() = 1
        place() = 2
        place() = 3
        place() = 4
        place() = 5
        near(0, 1, 1) = 0
        near(1, 2, 1) = 0
        near(2, 3, 1) = 0
        near(3, 4, 1) = 0
        tape(1)
        text(0) = 1
        tape(3)
        text(1) = 1
        aim(0, 10) = 1
        aim(1, 3) = 1
        live(40) = 40
        count(2) = 80
        live(50) = 90
        live(50) = 140
        live(50) = 190
        live(50) = 240
        live(50) = 290
        live(50) = 340
        live(50) = 390
        live(9) = 399
        count(2) = 80
        """ + works(8) + """
        tape(10+1+1+1+1+1+1+1+1+1+1+1+1+1+1+1+1+1+1+1+1+1+1+1+1)
        count(5) = 50
        """ + tells(20) + """
        sheet(0, 32, 40) = 1
        put(0, 1, 1) = 1
        """;

    private Worlds() { }

    /** So many WORKS on an object that has none. */
    static String works(int many) {
        StringBuilder lines = new StringBuilder();
        for (int i = 0; i < many; i++) {
            lines.append("work(").append(i).append(", 999) = ").append(i).append('\n');
        }
        return lines.toString();
    }

    /** So many numbers that wait on an object that has none: 0, 2, 4, .. */
    static String tells(int many) {
        StringBuilder lines = new StringBuilder();
        for (int i = 0; i < many; i++) {
            lines.append("tell(").append(2 * i).append(") = ").append(i + 1).append('\n');
        }
        return lines.toString();
    }

    /** WORDS of a KIND by word(), from number first on. */
    static String words(int many, int first, int kind, int ft, int pact) {
        StringBuilder lines = new StringBuilder();
        for (int i = 0; i < many; i++) {
            lines.append("word(" + kind + ", " + ft + ", " + pact + ") = " + (first + i) + "\n");
        }
        return lines.toString();
    }
}
