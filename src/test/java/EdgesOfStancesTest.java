/** The edges of STANCE and of MADE: these of the document's part 1, promises 14 and 15. */
public final class EdgesOfStancesTest {
    // By these, all sent in YEAR 0, PLACE 0 of THREE has STANCE 0, 1, 2, 3 about PACT 0 in YEAR 1.
    private static final String[] TO_STANCE = {
        "", "word(1, 1, 0) = 0\n", "word(1, 1, 0) = 0\nword(2, 10, 0) = 1\n", "word(5, 1, 0) = 0\n"
    };
    private static final int[] WORDS_TO = {0, 1, 2, 1};

    private EdgesOfStancesTest() { }

    public static void main(String[] args) {
        atFirst();
        termIsOver();
        whatComesIsFirst();
        whatIsSentByNumbers();
        kinds();
        offers();
        yesAfterAnOffer();
        yesWithoutAnOffer();
        made();
        stance();
        Script.end();
    }

    private static void atFirst() {
        StringBuilder lines = new StringBuilder(Worlds.TWO + "live(1) = 1\n");
        for (int pact = 0; pact < 4; pact++) {
            lines.append("stance(0, " + pact + ", 0) = 0\nstance(1, " + pact + ", 1) = 0\n");
        }
        Script.edge("Terms 1", "STANCE (0 free, 1 offers, 2 bound, 3 has begun) of a PLACE about a PACT in a YEAR: 0 at first", lines.toString());
        Script.edge("Terms 1", "of a PLACE about a PACT in a YEAR", Worlds.THREE + """
            live(2) = 2
            word(5, 1, 2) = 0
            live(2) = 4
            stance(0, 2, 1) = 0
            stance(0, 2, 2) = 3
            stance(0, 2, 4) = 3
            stance(0, 1, 4) = 0
            stance(0, 3, 4) = 0
            stance(1, 2, 4) = 0
            stance(2, 2, 4) = 0
            """);
    }

    private static void termIsOver() {
        String over = "if it is 1 by a WORD whose TERM is over (the YEAR is above the one in which that was sent, and TERM, together), it is 0";
        Script.edge("Terms 1", over, Worlds.TWO + """
            rule(0, 0) = 20
            word(1, 1, 0) = 0
            rule(0, 1) = 0
            word(1, 1, 1) = 1
            rule(0, 99) = 1
            word(1, 1, 2) = 2
            live(50) = 50
            live(50) = 100
            stance(0, 0, 0) = 1
            stance(0, 0, 1) = 0
            stance(0, 1, 1) = 1
            stance(0, 1, 2) = 0
            stance(0, 2, 99) = 1
            stance(0, 2, 100) = 0
            stance(0, 2, 98) = 1
            """);
        Script.edge("Terms 1", "if it is 1 by a WORD whose TERM is over", Worlds.TWO + """
            # 2 and 3 are never over
            rule(0, 1) = 20
            word(1, 1, 0) = 0
            word(2, 10, 0) = 1
            word(5, 1, 1) = 2
            live(50) = 50
            stance(0, 0, 0) = 1
            stance(0, 0, 1) = 2
            stance(0, 0, 50) = 2
            stance(0, 1, 50) = 3
            """);
        Script.edge("Terms 1", "if it is 1 by a WORD whose TERM is over", Worlds.TWO + """
            # by the first OFFER, whose TERM is 1; the second one, of 99, has left it
            rule(0, 1) = 20
            word(1, 1, 0) = 0
            rule(0, 99) = 1
            word(1, 1, 0) = 1
            live(2) = 2
            stance(0, 0, 1) = 1
            stance(0, 0, 2) = 0
            # free in this YEAR, so the next one makes it 1 anew
            rule(0, 1) = 99
            word(1, 1, 0) = 2
            stance(0, 0, 2) = 1
            live(2) = 4
            stance(0, 0, 3) = 1
            stance(0, 0, 4) = 0
            """);
        Script.edge("Terms 1", "if it is 1 by a WORD whose TERM is over", Worlds.TWO + """
            # 1 by a longer WORD after BACK
            rule(0, 1) = 20
            word(1, 1, 0) = 0
            word(4, 1, 0) = 1
            rule(0, 5) = 1
            word(1, 1, 0) = 2
            live(6) = 6
            stance(0, 0, 2) = 1
            stance(0, 0, 5) = 1
            stance(0, 0, 6) = 0
            """);
    }

    private static void whatComesIsFirst() {
        Script.edge("Terms 1", "then all WORDS about that PACT that COME to it in that YEAR, by numbers", Worlds.TWO + """
            rule(0, 1) = 20
            # a YES in the last YEAR of the TERM
            word(1, 1, 0) = 0
            word(2, 10, 0) = 1
            # and one in the first after it
            word(1, 1, 1) = 2
            near(0, 1, 2) = 1
            word(2, 10, 1) = 3
            # and one about another PACT, or to another PLACE
            near(0, 1, 1) = 2
            word(1, 1, 2) = 4
            word(2, 10, 3) = 5
            live(2) = 2
            stance(0, 0, 1) = 2
            stance(0, 1, 1) = 1
            stance(0, 1, 2) = 0
            stance(0, 2, 1) = 1
            """);
        Script.edge("Terms 1", "that COME to it in that YEAR", Worlds.THREE + """
            # YES and BACK in one YEAR, in whichever order they were sent
            word(1, 1, 0) = 0
            word(2, 10, 0) = 1
            word(4, 20, 0) = 2
            word(1, 1, 1) = 3
            word(4, 20, 1) = 4
            word(2, 10, 1) = 5
            live(1) = 1
            stance(0, 0, 0) = 1
            stance(0, 0, 1) = 0
            stance(0, 1, 1) = 0
            """);
        Script.edge("Terms 1", "then all that it sent in that YEAR", Worlds.TWO + """
            # what COMES is first: 1 to 2 by the YES, then 2 to 3 by the DEED
            word(1, 1, 0) = 0
            word(2, 10, 0) = 1
            live(1) = 1
            word(3, 1, 0) = 2
            stance(0, 0, 1) = 3
            # 0 left by BACK, then 1 by the OFFER
            word(4, 10, 1) = 3
            live(1) = 2
            word(1, 1, 1) = 4
            stance(0, 1, 2) = 1
            """);
    }

    private static void whatIsSentByNumbers() {
        Script.edge("Terms 1", "then all that it sent in that YEAR, by numbers", Worlds.TWO + """
            word(1, 1, 0) = 0
            stance(0, 0, 0) = 1
            word(4, 1, 0) = 1
            stance(0, 0, 0) = 0
            word(4, 1, 1) = 2
            word(1, 1, 1) = 3
            stance(0, 1, 0) = 1
            # a DEED ahead of FIRM, and BACK behind it
            word(3, 1, 2) = 4
            stance(0, 2, 0) = 0
            word(5, 1, 2) = 5
            word(4, 1, 2) = 6
            stance(0, 2, 0) = 3
            # what the other one sent in it doesn't count
            stance(1, 0, 0) = 0
            """);
    }

    /** What a KIND makes of each STANCE: as it is sent, and as it COMES. */
    private static void kind(String section, String sentence, int kind, int[] sent, int[] came) {
        for (int stance = 0; stance < 4; stance++) {
            String before = Worlds.THREE + TO_STANCE[stance] + "live(1) = 1\nstance(0, 0, 1) = " + stance + "\n";
            Script.edge(section, sentence, before
                + "word(" + kind + ", 2, 0) = " + WORDS_TO[stance] + "\n"
                + "stance(0, 0, 1) = " + sent[stance] + "\nstance(2, 0, 1) = 0\n");
            int comes = kind == 6 ? 4 : 2;
            Script.edge(section, sentence, before
                + "word(" + kind + ", 20, 0) = " + WORDS_TO[stance] + "\n"
                + "stance(0, 0, 1) = " + stance + "\nlive(" + (comes - 1) + ") = " + comes + "\n"
                + "stance(0, 0, " + (comes - 1) + ") = " + stance + "\n"
                + "stance(0, 0, " + comes + ") = " + came[stance] + "\n");
        }
    }

    private static void kinds() {
        int[] left = {0, 1, 2, 3};
        kind("Terms 1", "WORD: CAME, SENT leave it.", 0, left, left);
        kind("Terms 1", "OFFER: CAME leaves it; SENT makes 0 to 1 (by that WORD), else leaves it.", 1, new int[] {1, 1, 2, 3}, left);
        kind("Terms 1", "YES: CAME makes 1 to 2, else leaves it", 2, new int[] {1, 1, 2, 3}, new int[] {0, 2, 2, 3});
        kind("Terms 1", "DEED: CAME leaves it; SENT makes 2 to 3, else leaves it.", 3, new int[] {0, 1, 3, 3}, left);
        int[] back = {0, 0, 0, 3};
        kind("Terms 1", "BACK: CAME makes 1 and 2 to 0; SENT makes 1 and 2 to 0; else they leave it.", 4, back, back);
        kind("Terms 1", "FIRM: CAME leaves it; SENT makes all to 3.", 5, new int[] {3, 3, 3, 3}, left);
        kind("Terms 1", "LATE: as WORD.", 6, left, left);
    }

    private static void offers() {
        Script.edge("Terms 1", "SENT makes 0 to 1 (by that WORD), else leaves it.", Worlds.TWO + """
            rule(0, 3) = 20
            live(2) = 2
            word(1, 1, 0) = 0
            live(1) = 3
            word(1, 1, 0) = 1
            live(3) = 6
            stance(0, 0, 2) = 1
            stance(0, 0, 5) = 1
            stance(0, 0, 6) = 0
            """);
    }

    private static void yesAfterAnOffer() {
        String yes = "SENT makes 0 and 1 to 2, if an OFFER (or one under it) about that PACT has COME to it up to that YEAR from the PLACE to which the YES goes, which isn't over (TERM, as above)";
        int[] due = {2, 2, 2, 3};
        for (int kind = 1; kind <= 2; kind++) {
            for (int stance = 0; stance < 4; stance++) {
                if (kind == 2 && stance == 1) {
                    continue;
                }
                Script.edge("Terms 1", yes, Worlds.THREE + "word(" + kind + ", 20, 0) = 0\n"
                    + TO_STANCE[stance].replace("= 1", "= 2").replace("= 0", "= 1") + "live(1) = 1\n"
                    + "stance(0, 0, 1) = " + stance + "\n"
                    + "word(2, 2, 0) = " + (1 + WORDS_TO[stance]) + "\nstance(0, 0, 1) = " + due[stance] + "\n");
            }
        }
        Script.edge("Terms 1", "which isn't over (TERM, as above)", Worlds.TWO + """
            rule(0, 3) = 20
            word(1, 1, 0) = 0
            # the TERM is that of the OFFER
            rule(0, 0) = 3
            live(3) = 3
            image() = 1
            word(2, 10, 0) = 1
            stance(1, 0, 3) = 2
            restore() = 3
            live(1) = 4
            word(2, 10, 0) = 1
            stance(1, 0, 4) = 1
            """);
        Script.edge("Terms 1", "which isn't over (TERM, as above)", Worlds.TWO + """
            # the first OFFER is over, but a later one isn't; and the other way round
            rule(0, 2) = 20
            word(1, 1, 0) = 0
            rule(0, 9) = 2
            word(1, 1, 1) = 1
            live(1) = 1
            word(1, 1, 0) = 2
            rule(0, 0) = 9
            word(1, 1, 1) = 3
            live(4) = 5
            word(2, 10, 0) = 4
            stance(1, 0, 5) = 2
            word(2, 10, 1) = 5
            stance(1, 1, 5) = 2
            """);
        Script.edge("Terms 1", "about that PACT has COME to it up to that YEAR from the PLACE to which the YES goes", Worlds.THREE + """
            near(0, 1, 2) = 1
            near(0, 2, 1) = 1
            near(1, 2, 2) = 1
            word(1, 1, 0) = 0
            live(1) = 1
            # not yet
            image() = 1
            word(2, 10, 0) = 1
            stance(1, 0, 1) = 1
            restore() = 1
            live(1) = 2
            image() = 2
            # in this very YEAR
            word(2, 10, 0) = 1
            stance(1, 0, 2) = 2
            restore() = 2
            # to another PLACE
            word(2, 12, 0) = 1
            stance(1, 0, 2) = 1
            restore() = 2
            # about another PACT
            word(2, 10, 1) = 1
            stance(1, 1, 2) = 1
            restore() = 2
            # by another PLACE than that to which it came
            word(2, 20, 0) = 1
            stance(2, 0, 2) = 1
            """);
        for (int kind : new int[] {0, 3, 4, 5, 6}) {
            Script.edge("Terms 1", "if an OFFER (or one under it) about that PACT has COME", Worlds.TWO
                + "word(" + kind + ", 1, 0) = 0\nlive(5) = 5\nword(2, 10, 0) = 1\nstance(1, 0, 5) = 1\n");
        }
    }

    private static void yesWithoutAnOffer() {
        Script.edge("Terms 1", "else as an OFFER.", Worlds.TWO + """
            rule(0, 2) = 20
            # 0 to 1 by that WORD, with its own TERM
            word(2, 1, 0) = 0
            rule(0, 9) = 2
            live(3) = 3
            stance(0, 0, 0) = 1
            stance(0, 0, 2) = 1
            stance(0, 0, 3) = 0
            # it is under OFFER: who gets it may say YES to it
            word(2, 1, 1) = 1
            live(1) = 4
            word(2, 10, 1) = 2
            stance(1, 1, 4) = 2
            live(1) = 5
            stance(0, 1, 5) = 2
            """);
    }

    private static void made() {
        Script.edge("Terms 1", "MADE of two PLACES and a PACT: the first YEAR (up to NOW, that as it is so far) in which the STANCE of both is 2 or more.", Worlds.TWO + """
            # 3 and 3 in NOW
            made(0, 1, 0) = NONE
            word(5, 1, 0) = 0
            made(0, 1, 0) = NONE
            word(5, 10, 0) = 1
            made(0, 1, 0) = 0
            # 2 and 3
            word(1, 1, 1) = 2
            word(2, 10, 1) = 3
            live(1) = 1
            made(0, 1, 1) = NONE
            word(5, 10, 1) = 4
            made(0, 1, 1) = 1
            # 2 and 2
            word(1, 1, 2) = 5
            live(1) = 2
            word(2, 10, 2) = 6
            made(0, 1, 2) = NONE
            live(1) = 3
            made(0, 1, 2) = 3
            # 3 and 1
            word(1, 1, 3) = 7
            word(5, 10, 3) = 8
            live(9) = 12
            made(0, 1, 3) = NONE
            # the first YEAR stays
            made(0, 1, 0) = 0
            made(1, 0, 1) = 1
            made(1, 0, 2) = 3
            """);
        Script.edge("Terms 1", "(up to NOW, that as it is so far)", Worlds.TWO + """
            word(5, 1, 0) = 0
            word(1, 10, 0) = 1
            word(2, 1, 0) = 2
            # 1 will be bound in 1, but that is above NOW
            made(0, 1, 0) = NONE
            live(1) = 1
            made(0, 1, 0) = 1
            # so far: BACK in the same YEAR, and it is not made
            word(4, 10, 0) = 3
            made(0, 1, 0) = NONE
            live(1) = 2
            made(0, 1, 0) = NONE
            """);
        Script.edge("Terms 1", "in which the STANCE of both is 2 or more", Worlds.TWO + """
            # bound one after the other, never in one YEAR
            word(1, 1, 0) = 0
            word(2, 10, 0) = 1
            live(1) = 1
            stance(0, 0, 1) = 2
            live(1) = 2
            word(4, 1, 0) = 2
            word(5, 10, 0) = 3
            stance(0, 0, 1) = 2
            stance(0, 0, 2) = 0
            stance(1, 0, 2) = 3
            made(0, 1, 0) = NONE
            # again, in 3
            live(1) = 3
            word(5, 1, 0) = 4
            made(0, 1, 0) = 3
            """);
        Script.edge("Terms 1", "MADE of two PLACES and a PACT: the first YEAR", Worlds.TWO + """
            # 79 WORDS, each in a YEAR of its own and each COMES in another one, and FIRM by both at the end
            tape((y%2=0&y<157)*3+(y=156)*2)
            text(0) = 1
            tape((y=158)*5)
            text(1) = 1
            aim(0, 10) = 1
            aim(1, 0) = 1
            live(50) = 50
            live(50) = 100
            live(50) = 150
            live(8) = 158
            count(2) = 79
            stance(0, 0, 155) = 0
            stance(0, 0, 156) = 3
            made(0, 1, 0) = NONE
            live(1) = 159
            count(2) = 80
            made(0, 1, 0) = 158
            made(1, 0, 0) = 158
            """);
        Script.edge("Promise 15", "MADE.", Worlds.THREE + """
            word(5, 1, 3) = 0
            word(5, 20, 3) = 1
            # of 0 and 2, whoever got their WORDS
            made(0, 2, 3) = 0
            made(2, 0, 3) = 0
            made(0, 1, 3) = NONE
            made(0, 2, 2) = NONE
            """);
        Script.edge("Promise 15", "BEYOND: PLACES (also one twice), PACT.", Worlds.TWO + """
            word(5, 1, 0) = 0
            word(5, 10, 0) = 1
            made(0, 0, 0) = BEYOND
            made(1, 1, 0) = BEYOND
            made(0, 2, 0) = BEYOND
            made(2, 0, 0) = BEYOND
            made(-1, 0, 0) = BEYOND
            made(0, -1, 0) = BEYOND
            made(MAX, 0, 0) = BEYOND
            made(0, MIN, 0) = BEYOND
            made(0, 1, -1) = BEYOND
            made(0, 1, 4) = BEYOND
            made(0, 1, MAX) = BEYOND
            made(0, 1, 0) = 0
            made(0, 1, 3) = NONE
            """);
        Script.edge("Promise 15", "NONE: never so far.", Worlds.TWO + Worlds.TO_350 + """
            live(49) = 399
            made(0, 1, 0) = NONE
            word(5, 1, 0) = 0
            made(0, 1, 0) = NONE
            word(5, 10, 0) = 1
            made(0, 1, 0) = 399
            """);
    }

    private static void stance() {
        Script.edge("Promise 14", "STANCE in a YEAR up to NOW (in NOW: as it is so far).", Worlds.TWO + """
            stance(0, 0, 0) = 0
            word(1, 1, 0) = 0
            stance(0, 0, 0) = 1
            word(5, 1, 0) = 1
            stance(0, 0, 0) = 3
            live(2) = 2
            stance(0, 0, 0) = 3
            stance(0, 0, 1) = 3
            stance(0, 0, 2) = 3
            stance(0, 0, 3) = BEYOND
            """);
        Script.edge("Promise 14", "BEYOND.", Worlds.TWO + """
            stance(0, 0, 1) = BEYOND
            live(5) = 5
            stance(0, 0, 5) = 0
            stance(0, 0, 6) = BEYOND
            stance(0, 0, -1) = BEYOND
            stance(0, 0, MAX) = BEYOND
            stance(0, 0, MIN) = BEYOND
            stance(1, 3, 0) = 0
            stance(1, 4, 0) = BEYOND
            stance(1, -1, 0) = BEYOND
            stance(1, MAX, 0) = BEYOND
            stance(2, 0, 0) = BEYOND
            stance(-1, 0, 0) = BEYOND
            stance(MIN, 0, 0) = BEYOND
            """);
    }
}
