/** The edges of VOICES and of SHEETS: the document's parts 4 and 5, promises 34 to 39. */
public final class EdgesOfVoicesTest {
    // WORD n is of KIND n - 1 (0 is one of KIND 0), all with TERM 7.
    private static final String EIGHT = Worlds.TWO + """
        rule(0, 7) = 20
        word(0, 1, 0) = 0
        word(0, 1, 0) = 1
        word(1, 1, 0) = 2
        word(2, 1, 0) = 3
        word(3, 1, 0) = 4
        word(4, 1, 0) = 5
        word(5, 1, 0) = 6
        word(6, 1, 0) = 7
        """;
    private static final int BINDS = 0;
    private static final int WHOM = 1;
    private static final int FROM = 2;
    private static final int TELLS = 3;
    private static final int MAX = Integer.MAX_VALUE;
    private static final int MIN = Integer.MIN_VALUE;

    private EdgesOfVoicesTest() { }

    public static void main(String[] args) {
        acts();
        bodiesOfWords();
        bodiesOfOffersAndDeeds();
        bodiesOfBackFirmLate();
        above();
        traces();
        seed();
        voice();
        trace();
        sheets();
        sheet();
        put();
        move();
        moveRefused();
        Script.end();
    }

    /** A VOICE of one of the EIGHT, and THE TRACE that it leaves. */
    private static String voiced(int word, int act, int x, int answer, int... bodies) {
        StringBuilder lines = new StringBuilder("voice(" + word + ", " + act + ", " + x + ") = " + answer + "\n");
        lines.append("count(7) = " + bodies.length + "\n");
        for (int i = 0; i < bodies.length; i++) {
            lines.append("trace(" + i + ") = " + bodies[i] + "\n");
        }
        lines.append("trace(" + bodies.length + ") = NONE\n");
        return lines.toString();
    }

    private static void acts() {
        Script.edge("Terms 4", "VOICES of a WORD, with a number x (ints that go round); n is its number, m its TERM: 0 binds, 1 whom, 2 from, 3 tells.", EIGHT + """
            voice(1, 0, 5) = 6
            voice(1, 1, 5) = 12
            voice(1, 2, 5) = -2
            voice(1, 3, 5) = -14
            voice(1, 4, 5) = BEYOND
            voice(1, -1, 5) = BEYOND
            # another number, another TERM
            rule(0, 99) = 7
            word(0, 1, 0) = 8
            voice(8, 0, 5) = 13
            voice(8, 2, 5) = -94
            voice(0, 0, 5) = 5
            """);
        Script.edge("Terms 4", "(ints that go round)", EIGHT + voiced(1, BINDS, MAX, MIN, 10) + voiced(1, BINDS, -1, 0, 10)
            + voiced(1, WHOM, 1073741823, MIN, 11, 10) + voiced(1, WHOM, MAX, 0, 11, 10) + voiced(1, FROM, MIN, 2147483641, 12)
            + voiced(1, FROM, MIN + 7, MIN, 12) + voiced(3, BINDS, 1073741824, -1073741821, 31, 20, 10)
            + voiced(4, FROM, MIN + 7, MIN, 40, 12) + voiced(6, FROM, MAX, -2147483641, 60, 40, 12)
            + voiced(7, BINDS, MAX, MIN + 13, 70, 10));
    }

    private static void bodiesOfWords() {
        Script.edge("Terms 4", "BODIES: WORD: 10 binds: x + n.", EIGHT + voiced(1, BINDS, 5, 6, 10) + voiced(0, BINDS, 5, 5, 10)
            + voiced(1, BINDS, -1, 0, 10) + voiced(1, BINDS, 0, 1, 10));
        Script.edge("Terms 4", "11 whom: binds(x) * 2.", EIGHT + voiced(1, WHOM, 5, 12, 11, 10) + voiced(2, WHOM, 5, 10, 11, 20, 10)
            + voiced(4, WHOM, 5, 18, 11, 10) + voiced(5, WHOM, 5, 20, 11, 10) + voiced(7, WHOM, 5, 38, 11, 70, 10));
        Script.edge("Terms 4", "12 from: x - m.", EIGHT + voiced(1, FROM, 5, -2, 12) + voiced(1, FROM, 7, 0, 12)
            + voiced(2, FROM, 5, -2, 12) + voiced(3, FROM, 5, -2, 12) + voiced(5, FROM, 8, 1, 12) + voiced(7, FROM, 5, -2, 12));
        Script.edge("Terms 4", "13 tells: whom(x) ^ from(x).", EIGHT + voiced(1, TELLS, 5, 12 ^ -2, 13, 11, 10, 12)
            + voiced(2, TELLS, 5, 10 ^ -2, 13, 11, 20, 10, 12) + voiced(4, TELLS, 5, 18 ^ 2, 13, 11, 10, 40, 12)
            + voiced(1, TELLS, 7, 16, 13, 11, 10, 12));
    }

    private static void bodiesOfOffersAndDeeds() {
        Script.edge("Terms 4", "OFFER: 20 binds: super.binds(x) - 2.", EIGHT + voiced(2, BINDS, 5, 5, 20, 10) + voiced(2, BINDS, MIN, MIN, 20, 10)
            + voiced(2, BINDS, 0, 0, 20, 10));
        Script.edge("Terms 4", "YES: 30 whom: super.whom(x) + from(1).", EIGHT + voiced(3, WHOM, 5, 30, 30, 11, 31, 20, 10, 12)
            + voiced(3, TELLS, 5, 30 ^ -2, 13, 30, 11, 31, 20, 10, 12, 12) + voiced(3, WHOM, 0, 0, 30, 11, 31, 20, 10, 12));
        Script.edge("Terms 4", "31 binds: super.binds(x) * 3.", EIGHT + voiced(3, BINDS, 5, 18, 31, 20, 10) + voiced(3, BINDS, -1, 0, 31, 20, 10));
        Script.edge("Terms 4", "DEED: 40 from: -super.from(x).", EIGHT + voiced(4, FROM, 5, 2, 40, 12) + voiced(4, FROM, 7, 0, 40, 12)
            + voiced(4, FROM, 9, -2, 40, 12));
    }

    private static void bodiesOfBackFirmLate() {
        Script.edge("Terms 4", "BACK: 50 tells: binds(2) - super.tells(x).", EIGHT + voiced(5, TELLS, 5, 7 - (20 ^ -2), 50, 10, 13, 11, 10, 12)
            + voiced(5, TELLS, 7, 7 - 24, 50, 10, 13, 11, 10, 12));
        Script.edge("Terms 4", "FIRM: 60 from: super.from(x + 1).", EIGHT + voiced(6, FROM, 5, 1, 60, 40, 12) + voiced(6, FROM, 6, 0, 60, 40, 12));
        Script.edge("Terms 4", "61 whom: super.whom(x) ^ n.", EIGHT + voiced(6, WHOM, 5, 22 ^ 6, 61, 11, 10)
            + voiced(6, TELLS, 5, 16 ^ 1, 13, 61, 11, 10, 60, 40, 12) + voiced(6, WHOM, -3, 0, 61, 11, 10));
        Script.edge("Terms 4", "LATE: 70 binds: super.binds(x) + m.", EIGHT + voiced(7, BINDS, 5, 19, 70, 10) + voiced(7, BINDS, -14, 0, 70, 10));
        Script.edge("Terms 4", "71 tells: super.tells(x) * 5.", EIGHT + voiced(7, TELLS, 5, -200, 71, 13, 11, 70, 10, 12)
            + voiced(7, TELLS, 7, 42 * 5, 71, 13, 11, 70, 10, 12));
    }

    private static void above() {
        Script.edge("Terms 4", "binds(..) is the BODY of its KIND, or of the next KIND above that has one", EIGHT
            // BACK and FIRM have no binds, YES no from, OFFER no whom.
            + voiced(5, BINDS, 5, 10, 10) + voiced(6, BINDS, 5, 11, 10) + voiced(3, FROM, 5, -2, 12) + voiced(2, WHOM, 5, 10, 11, 20, 10));
        Script.edge("Terms 4", "super.binds(..) that from the KIND above the BODY's on", EIGHT
            // OFFER has no whom, so that of WORD; it asks for binds of a YES again. So with DEED and FIRM.
            + voiced(3, WHOM, 5, 30, 30, 11, 31, 20, 10, 12) + voiced(6, WHOM, 5, 16, 61, 11, 10) + voiced(6, FROM, 5, 1, 60, 40, 12));
    }

    private static void traces() {
        Script.edge("Terms 4", "THE TRACE: the numbers of BODIES of the latest voice(), as they began (what stands left is worked out first), the first 40.", EIGHT
            // The longest there is has 8: no voice() of this document comes to 40. After it, a shorter one.
            + voiced(3, TELLS, 5, 30 ^ -2, 13, 30, 11, 31, 20, 10, 12, 12) + voiced(1, BINDS, 5, 6, 10)
            + voiced(5, TELLS, 5, 29, 50, 10, 13, 11, 10, 12) + """
            voice(8, 0, 0) = BEYOND
            voice(5, 4, 0) = BEYOND
            count(7) = 6
            trace(0) = 50
            trace(5) = 12
            """);
    }

    private static void seed() {
        Script.edge("Promise 34", "z becomes v: what it was (any number).", """
            seed(MIN) = 1
            seed(MAX) = MIN
            seed(0) = MAX
            seed(-1) = 0
            # those like ERRORS are none
            seed(-1000001) = -1
            seed(-1000005) = -1000001
            seed(-1000006) = -1000005
            count(8) = -1000006
            told(1) = 0
            told(5) = 0
            """);
    }

    private static void voice() {
        Script.edge("Promise 35", "A VOICE of a WORD: any number.", EIGHT + """
            voice(0, 0, MIN) = MIN
            voice(0, 0, MAX) = MAX
            voice(0, 0, -1000001) = -1000001
            voice(0, 0, -1000005) = -1000005
            told(1) = 0
            told(5) = 0
            # one that is LOST has its VOICES, too
            lose(1) = 1
            voice(1, 0, 5) = 6
            """);
        Script.edge("Promise 35", "BEYOND.", "voice(0, 0, 0) = BEYOND\n" + EIGHT + """
            voice(7, 0, 0) = 14
            voice(8, 0, 0) = BEYOND
            voice(-1, 0, 0) = BEYOND
            voice(MAX, 0, 0) = BEYOND
            voice(MIN, 0, 0) = BEYOND
            voice(0, 3, 0) = -7
            voice(0, 4, 0) = BEYOND
            voice(0, -1, 0) = BEYOND
            voice(0, MAX, 0) = BEYOND
            voice(0, MIN, 0) = BEYOND
            count(7) = 4
            """);
    }

    private static void trace() {
        Script.edge("Promise 36", "THE TRACE's i-th.", EIGHT + "voice(2, 0, 5) = 5\ntrace(0) = 20\ntrace(1) = 10\n");
        Script.edge("Promise 36", "NONE: there is none such.", "trace(0) = NONE\n" + EIGHT + """
            trace(0) = NONE
            voice(2, 0, 5) = 5
            trace(1) = 10
            trace(2) = NONE
            trace(-1) = NONE
            trace(39) = NONE
            trace(40) = NONE
            trace(MAX) = NONE
            trace(MIN) = NONE
            """);
    }

    private static void sheets() {
        Script.edge("Terms 5", "SHEETS 0 .. 3 are rows of 8, 16, 32 bits, at most 40 numbers, or missing (as at first).", """
            words(0) = NONE
            words(3) = NONE
            sheet(-1, 8, 1) = BEYOND
            sheet(4, 8, 1) = BEYOND
            sheet(0, 8, 40) = 1
            sheet(1, 16, 40) = 1
            sheet(2, 32, 40) = 1
            words(3) = NONE
            sheet(3, 8, 0) = 1
            sheet(3, 8, 41) = BEYOND
            sheet(3, 16, 41) = BEYOND
            sheet(3, 32, 41) = BEYOND
            put(0, 39, 1) = 1
            put(1, 39, 1) = 1
            put(2, 39, 1) = 1
            put(2, 40, 1) = BEYOND
            put(3, 0, 1) = BEYOND
            """);
    }

    private static void sheet() {
        Script.edge("Promise 37", "A SHEET has n numbers, all 0, of so many bits (8, 16, 32; 0: it is missing, n doesn't matter): 1.", Worlds.TWO + """
            sheet(0, 8, 3) = 1
            put(0, 0, 5) = 1
            put(0, 1, 1) = 1
            words(0) = 1
            # all 0 again, of as many, of fewer and more numbers
            sheet(0, 8, 3) = 1
            words(0) = 0
            put(0, 1, 1) = 1
            words(0) = 1
            ofWord(1, 0) = 0
            put(0, 0, 5) = 1
            sheet(0, 8, 0) = 1
            put(0, 0, 5) = BEYOND
            sheet(0, 8, 40) = 1
            put(0, 1, 1) = 1
            words(0) = 1
            ofWord(2, 0) = 0
            put(0, 39, 5) = 1
            put(0, 40, 5) = BEYOND
            """);
        Script.edge("Promise 37", "0: it is missing, n doesn't matter", """
            sheet(0, 8, 3) = 1
            sheet(0, 0, 3) = 1
            put(0, 0, 0) = NONE
            sheet(0, 0, 0) = 1
            sheet(0, 0, -1) = 1
            sheet(0, 0, 41) = 1
            sheet(0, 0, MIN) = 1
            sheet(0, 0, MAX) = 1
            words(0) = NONE
            sheet(4, 0, 0) = BEYOND
            """);
        StringBuilder bits = new StringBuilder();
        for (int b : new int[] {1, 4, 7, 9, 15, 17, 24, 31, 33, 40, 64, 256, -1, -8, -16, -32, MAX, MIN}) {
            bits.append("sheet(0, " + b + ", 1) = BEYOND\n");
        }
        Script.edge("Promise 37", "BEYOND.", bits + """
            words(0) = NONE
            sheet(4, 8, 1) = BEYOND
            sheet(-1, 8, 1) = BEYOND
            sheet(MAX, 8, 1) = BEYOND
            sheet(MIN, 8, 1) = BEYOND
            sheet(0, 8, 40) = 1
            sheet(0, 8, 41) = BEYOND
            sheet(0, 8, MAX) = BEYOND
            # it is as it was
            put(0, 39, 1) = 1
            sheet(3, 32, 40) = 1
            """);
        Script.edge("Promise 37", "STATE: n is below 0 (ahead of BEYOND of n).", """
            sheet(0, 8, -1) = STATE
            sheet(0, 16, MIN) = STATE
            sheet(3, 32, -1) = STATE
            sheet(0, 8, 0) = 1
            words(3) = NONE
            # BEYOND of the SHEET and of the bits is ahead of it
            sheet(4, 8, -1) = BEYOND
            sheet(-1, 8, -1) = BEYOND
            sheet(0, 9, -1) = BEYOND
            told(3) = 3
            """);
    }

    private static void put() {
        Script.edge("Promise 38", "Number i of a SHEET becomes v (its lowest bits): 1.", Worlds.TWO + """
            sheet(0, 8, 3) = 1
            sheet(1, 16, 3) = 1
            sheet(2, 32, 3) = 1
            put(0, 1, 1) = 1
            put(1, 1, 1) = 1
            put(2, 1, 1) = 1
            # 8 bits
            put(0, 0, 257) = 1
            words(0) = 1
            ofWord(0, 0) = 1
            put(0, 0, -254) = 1
            words(0) = 1
            ofWord(1, 0) = 2
            put(0, 0, 128) = 1
            words(0) = 0
            put(0, 0, -1) = 1
            words(0) = 0
            put(0, 0, MIN) = 1
            words(0) = 1
            ofWord(2, 0) = 0
            # 16 bits
            put(1, 0, 256) = 1
            words(1) = 0
            put(1, 0, 65539) = 1
            words(1) = 1
            ofWord(3, 0) = 3
            put(1, 0, -65532) = 1
            words(1) = 1
            ofWord(4, 0) = 4
            put(1, 0, 32768) = 1
            words(1) = 0
            # 32 bits
            put(2, 0, 65536) = 1
            words(2) = 0
            put(2, 0, MIN) = 1
            words(2) = 0
            put(2, 0, 5) = 1
            words(2) = 1
            ofWord(5, 0) = 5
            """);
        Script.edge("Promise 38", "BEYOND: no such SHEET.", """
            sheet(0, 8, 1) = 1
            sheet(3, 8, 1) = 1
            put(3, 0, 0) = 1
            put(4, 0, 0) = BEYOND
            put(-1, 0, 0) = BEYOND
            put(MAX, 0, 0) = BEYOND
            put(MIN, 0, 0) = BEYOND
            put(4, -1, 0) = BEYOND
            """);
        Script.edge("Promise 38", "NONE: it is missing.", """
            put(0, 0, 0) = NONE
            put(3, 0, 0) = NONE
            # ahead of BEYOND of the number
            put(0, -1, 0) = NONE
            put(0, 40, 0) = NONE
            sheet(0, 8, 1) = 1
            put(0, 0, 0) = 1
            sheet(0, 0, 1) = 1
            put(0, 0, 0) = NONE
            """);
        Script.edge("Promise 38", "BEYOND: no such number.", """
            sheet(0, 8, 0) = 1
            put(0, 0, 0) = BEYOND
            sheet(0, 8, 7) = 1
            put(0, 0, 0) = 1
            put(0, 6, 0) = 1
            put(0, 7, 0) = BEYOND
            put(0, -1, 0) = BEYOND
            put(0, MAX, 0) = BEYOND
            put(0, MIN, 0) = BEYOND
            sheet(1, 8, 40) = 1
            put(1, 39, 0) = 1
            put(1, 40, 0) = BEYOND
            """);
    }

    private static void move() {
        String nine = Worlds.TWO + """
            sheet(0, 8, 9) = 1
            put(0, 0, 1) = 1
            put(0, 1, 1) = 1
            put(0, 2, 1) = 1
            put(0, 3, 2) = 1
            put(0, 4, 10) = 1
            put(0, 5, 2) = 1
            put(0, 6, 3) = 1
            put(0, 7, 1) = 1
            put(0, 8, 3) = 1
            """;
        String sentence = "n numbers of a SHEET, from number i on, come to another one (or the same), from its number j on, as they all were: n.";
        Script.edge("Promise 39", sentence, nine + """
            sheet(1, 8, 6) = 1
            # the last three to the first, the first to the last
            move(0, 6, 1, 0, 3) = 3
            move(0, 0, 1, 3, 3) = 3
            words(1) = 2
            ofWord(0, 0) = 3
            ofWord(0, 3) = 3
            ofWord(1, 0) = 1
            ofWord(1, 3) = 1
            # what they come from stays
            words(0) = 3
            ofWord(2, 0) = 1
            ofWord(3, 0) = 2
            ofWord(4, 0) = 3
            # one number alone
            move(0, 3, 1, 0, 1) = 1
            words(1) = 2
            ofWord(5, 0) = 2
            ofWord(5, 3) = 3
            """);
        Script.edge("Promise 39", sentence, nine + """
            # the same, upwards: 1, 1, 2
            move(0, 0, 0, 3, 6) = 6
            words(0) = 3
            ofWord(0, 0) = 1
            ofWord(1, 0) = 1
            ofWord(1, 1) = 0
            ofWord(2, 0) = 2
            ofWord(2, 1) = 1
            """);
        Script.edge("Promise 39", sentence, nine + """
            # the same, downwards: 2, 3, 3
            move(0, 3, 0, 0, 6) = 6
            words(0) = 3
            ofWord(0, 0) = 2
            ofWord(0, 1) = 1
            ofWord(1, 0) = 3
            ofWord(2, 0) = 3
            # onto themselves
            move(0, 0, 0, 0, 9) = 9
            words(0) = 3
            ofWord(3, 0) = 2
            ofWord(5, 0) = 3
            """);
        Script.edge("Promise 39", "n numbers of a SHEET, from number i on, come to another one (or the same)", """
            # none, all, and at the ends
            sheet(0, 8, 40) = 1
            sheet(1, 8, 40) = 1
            sheet(2, 8, 0) = 1
            move(0, 0, 1, 0, 40) = 40
            move(0, 0, 1, 0, 0) = 0
            move(0, 40, 1, 40, 0) = 0
            move(0, 39, 1, 39, 1) = 1
            move(2, 0, 2, 0, 0) = 0
            move(2, 0, 0, 40, 0) = 0
            """);
    }

    private static void moveRefused() {
        Script.edge("Promise 39", "BEYOND: no such SHEET.", """
            sheet(0, 8, 1) = 1
            sheet(3, 8, 1) = 1
            move(0, 0, 3, 0, 1) = 1
            move(3, 0, 0, 0, 1) = 1
            move(4, 0, 0, 0, 1) = BEYOND
            move(0, 0, 4, 0, 1) = BEYOND
            move(-1, 0, 0, 0, 1) = BEYOND
            move(0, 0, -1, 0, 1) = BEYOND
            move(MAX, 0, 0, 0, 1) = BEYOND
            move(0, 0, MIN, 0, 1) = BEYOND
            # ahead of NONE
            move(1, 0, 4, 0, 1) = BEYOND
            move(4, 0, 1, 0, 1) = BEYOND
            """);
        Script.edge("Promise 39", "NONE: one is missing.", """
            move(0, 0, 0, 0, 0) = NONE
            move(0, 0, 1, 0, 1) = NONE
            sheet(0, 8, 1) = 1
            move(0, 0, 1, 0, 1) = NONE
            move(1, 0, 0, 0, 1) = NONE
            move(1, 0, 0, 0, 0) = NONE
            # ahead of BEYOND of the numbers
            move(0, -1, 1, 0, 1) = NONE
            """);
        Script.edge("Promise 39", "KIND: they are of unlike bits.", """
            sheet(0, 8, 4) = 1
            sheet(1, 16, 4) = 1
            sheet(2, 32, 4) = 1
            move(0, 0, 1, 0, 1) = KIND
            move(1, 0, 0, 0, 1) = KIND
            move(0, 0, 2, 0, 1) = KIND
            move(2, 0, 1, 0, 1) = KIND
            move(0, 0, 1, 0, 0) = KIND
            # ahead of BEYOND of the numbers
            move(0, -1, 1, 0, 1) = KIND
            move(0, 0, 1, 0, 5) = KIND
            sheet(1, 8, 4) = 1
            move(0, 0, 1, 0, 1) = 1
            """);
        Script.edge("Promise 39", "BEYOND: n, i, or j is below 0, or they don't stand there.", """
            sheet(0, 8, 9) = 1
            sheet(1, 8, 4) = 1
            move(0, 0, 1, 0, -1) = BEYOND
            move(0, -1, 1, 0, 1) = BEYOND
            move(0, 0, 1, -1, 1) = BEYOND
            move(0, -1, 1, 0, 0) = BEYOND
            move(0, 0, 1, -1, 0) = BEYOND
            move(0, MIN, 1, 0, 1) = BEYOND
            move(0, 0, 1, MIN, 1) = BEYOND
            move(0, 0, 1, 0, MIN) = BEYOND
            # the last that stand there, and one more
            move(0, 5, 1, 0, 4) = 4
            move(0, 6, 1, 0, 4) = BEYOND
            move(0, 0, 1, 0, 5) = BEYOND
            move(0, 0, 1, 1, 3) = 3
            move(0, 0, 1, 1, 4) = BEYOND
            move(0, 9, 1, 0, 1) = BEYOND
            move(0, 0, 1, 4, 1) = BEYOND
            move(1, 0, 0, 5, 4) = 4
            move(1, 0, 0, 6, 4) = BEYOND
            move(1, 0, 0, 0, 5) = BEYOND
            # sums that go round
            move(0, 1, 1, 0, MAX) = BEYOND
            move(0, MAX, 1, 0, 1) = BEYOND
            move(0, 0, 1, MAX, 1) = BEYOND
            move(0, MAX, 1, MAX, MAX) = BEYOND
            move(0, MIN, 1, MIN, MIN) = BEYOND
            # none of them, but from where no number can stand
            move(0, 9, 1, 4, 0) = 0
            move(0, 10, 1, 4, 0) = BEYOND
            move(0, 9, 1, 5, 0) = BEYOND
            """);
    }
}
