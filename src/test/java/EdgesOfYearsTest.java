/** The edges of AIMS, of YEARS that are LIVED and of draws: these of the document's part 2, promises 20 and 21. */
public final class EdgesOfYearsTest {
    private EdgesOfYearsTest() { }

    public static void main(String[] args) {
        namesOfOrders();
        aims();
        kinds();
        byNumbers();
        wayAndRoom();
        lived();
        draws();
        losses();
        aim();
        live();
        Script.end();
    }

    private static void namesOfOrders() {
        Script.edge("Terms 2", "NAMES s STANCE", Worlds.TWO + """
            aim(0, 10) = 1
            tape(s)
            text(0) = 1
            # STANCE 0: none; 1: an OFFER; 3: a DEED; about its AIM's PACT
            word(5, 1, 1) = 0
            live(1) = 1
            count(2) = 1
            word(1, 1, 0) = 1
            live(1) = 2
            count(2) = 3
            ofWord(2, 0) = 1
            word(5, 1, 0) = 3
            live(1) = 3
            count(2) = 5
            ofWord(4, 0) = 3
            """);
        Script.edge("Terms 2", "c how many WORDS have COME about the PACT up to the YEAR", Worlds.THREE + """
            aim(0, 11) = 1
            tape(c)
            text(0) = 1
            word(0, 10, 1) = 0
            word(0, 20, 1) = 1
            word(0, 10, 0) = 2
            word(0, 12, 1) = 3
            word(6, 20, 1) = 4
            # none in 0, two in 1 and 2, three in 3
            live(1) = 1
            count(2) = 5
            live(3) = 4
            count(2) = 8
            ofWord(5, 0) = 2
            ofWord(5, 4) = 1
            ofWord(6, 0) = 2
            ofWord(7, 0) = 3
            # a LOST one doesn't
            word(0, 10, 1) = 8
            lose(8) = 1
            live(2) = 6
            ofWord(10, 0) = 3
            """);
        Script.edge("Terms 2", "k KIND of the one of these that COMES latest, of like ones the one with the greatest number (9: none)", Worlds.THREE + """
            aim(0, 10) = 1
            # 9 is no KIND: nothing is sent as long as none has COME
            tape(k-(k=9)*8)
            text(0) = 1
            live(1) = 1
            ofWord(0, 0) = 1
            tape(k)
            text(0) = 1
            live(1) = 2
            count(2) = 1
            # in 3: 5 and 4, of which 4 has the greater number; about another PACT 2
            word(5, 20, 0) = 1
            word(4, 10, 0) = 2
            word(2, 10, 1) = 3
            live(1) = 3
            count(2) = 4
            live(1) = 4
            ofWord(4, 0) = 4
            # sent first, and COMES latest; what COMES ahead of it has a greater number
            near(0, 1, 3) = 1
            near(0, 2, 1) = 1
            near(1, 2, 3) = 1
            word(3, 10, 0) = 5
            word(5, 20, 0) = 6
            tape((y>4)*k)
            text(0) = 1
            live(4) = 8
            count(2) = 10
            ofWord(7, 0) = 5
            ofWord(7, 4) = 5
            ofWord(8, 0) = 5
            ofWord(9, 0) = 3
            ofWord(9, 4) = 7
            """);
        Script.edge("Terms 2", "k KIND of the one of these that COMES latest", Worlds.TWO + """
            # the only one of all
            word(4, 10, 0) = 0
            aim(0, 10) = 1
            tape(k)
            text(0) = 1
            live(1) = 1
            count(2) = 1
            live(1) = 2
            count(2) = 2
            ofWord(1, 0) = 4
            """);
        Script.edge("Terms 2", "(9: none), y YEAR", Worlds.TWO + """
            aim(0, 10) = 1
            tape(y)
            text(0) = 1
            # 0: none, 1 to 6: these KINDS, 7 and more: none
            live(10) = 10
            count(2) = 6
            ofWord(0, 0) = 1
            ofWord(0, 4) = 1
            ofWord(5, 0) = 6
            ofWord(5, 4) = 6
            tape((k=9)*(y=10)*2)
            text(1) = 1
            aim(1, 1) = 1
            live(1) = 11
            count(2) = 7
            ofWord(6, 0) = 2
            """);
    }

    private static void aims() {
        Script.edge("Terms 2", "A PLACE may have an AIM: another PLACE and a PACT.", Worlds.THREE + """
            tape(1)
            text(0) = 1
            # none at first
            live(1) = 1
            count(2) = 0
            aim(0, 0) = BEYOND
            aim(0, 10) = 1
            live(1) = 2
            aim(0, 23) = 1
            live(1) = 3
            aim(0, -1) = 1
            live(1) = 4
            count(2) = 2
            ofWord(0, 2) = 1
            ofWord(0, 3) = 0
            ofWord(1, 2) = 2
            ofWord(1, 3) = 3
            """);
    }

    private static void kinds() {
        StringBuilder lines = new StringBuilder(Worlds.TWO + "aim(0, 10) = 1\n");
        int sent = 0;
        String[] texts = {"0", "1", "2", "3", "4", "5", "6", "7", "9999", "0-1", "0-2", "0-9999*9999*22"};
        for (int i = 0; i < texts.length; i++) {
            lines.append("tape(" + texts[i] + ")\ntext(0) = 1\nlive(1) = " + (i + 1) + "\n");
            if (i >= 1 && i <= 6) {
                lines.append("ofWord(" + sent + ", 0) = " + i + "\nofWord(" + sent + ", 4) = " + i + "\n");
                sent++;
            }
            lines.append("count(2) = " + sent + "\n");
        }
        Script.edge("Terms 2", "gives the KIND of a WORD (1 to 6; else none) that is sent to its AIM", lines.toString());
        Script.edge("Terms 2", "ORDER of it (STANCE in this YEAR, as it is then)", Worlds.TWO + """
            rule(0, 1) = 20
            aim(0, 10) = 1
            tape((s=0)*3+(s=1)*4)
            text(0) = 1
            # what was sent in this YEAR counts
            word(1, 1, 0) = 0
            live(1) = 1
            ofWord(1, 0) = 4
            # BACK has left it 0: the TERM of the next OFFER is over in the YEAR after the next
            word(1, 1, 0) = 2
            tape((s=0)*3)
            text(0) = 1
            live(3) = 4
            count(2) = 4
            ofWord(3, 0) = 3
            ofWord(3, 4) = 3
            """);
    }

    private static void byNumbers() {
        Script.edge("Terms 2", "PLACES by numbers that have an AIM", """
            place() = 0
            place() = 1
            place() = 2
            place() = 3
            place() = 4
            place() = 5
            near(0, 5, 1) = 0
            near(2, 5, 1) = 0
            near(3, 5, 1) = 0
            tape(6)
            text(5) = 1
            tape(3)
            text(3) = 1
            tape(2)
            text(2) = 1
            tape(1)
            text(0) = 1
            tape(4)
            text(1) = 1
            # 5, 3, 0 in whichever order they are aimed; 1, 2, 4 have no AIM
            aim(5, 1) = 1
            aim(3, 52) = 1
            aim(0, 53) = 1
            live(2) = 2
            count(2) = 6
            ofWord(0, 0) = 1
            ofWord(0, 1) = 0
            ofWord(0, 3) = 3
            ofWord(1, 0) = 3
            ofWord(1, 1) = 3
            ofWord(2, 0) = 6
            ofWord(2, 1) = 5
            ofWord(2, 2) = 0
            ofWord(3, 1) = 0
            ofWord(3, 4) = 1
            ofWord(5, 1) = 5
            """);
    }

    private static void wayAndRoom() {
        Script.edge("Terms 2", "if there is a WAY", Worlds.TWO + """
            place() = 2
            tape(1)
            text(0) = 1
            aim(0, 20) = 1
            live(2) = 2
            count(2) = 0
            count(8) = 1
            told(2) = 0
            near(1, 2, 30) = 0
            live(1) = 3
            count(2) = 1
            ofWord(0, 5) = 33
            near(0, 1, 0) = 1
            live(1) = 4
            count(2) = 1
            """);
        Script.edge("Terms 2", "and room for it", Worlds.TWO + Worlds.words(79, 0, 0, 1, 3) + """
            tape(1)
            text(0) = 1
            tape(3)
            text(1) = 1
            aim(0, 10) = 1
            aim(1, 0) = 1
            seed(1) = 208521688
            # the last one is by PLACE 0; for 1 there is none
            live(1) = 1
            count(2) = 80
            ofWord(79, 0) = 1
            count(8) = 1103527590
            live(3) = 4
            count(2) = 80
            count(8) = 1103527590
            told(4) = 0
            """);
    }

    private static void lived() {
        Script.edge("Terms 2", "then NOW is 1 more", Worlds.TWO + """
            tape(1)
            text(0) = 1
            tape(1)
            text(1) = 1
            aim(0, 10) = 1
            aim(1, 0) = 1
            live(1) = 1
            ofWord(0, 4) = 0
            ofWord(1, 4) = 0
            ofWord(0, 5) = 1
            live(2) = 3
            ofWord(4, 4) = 2
            ofWord(5, 4) = 2
            count(2) = 6
            # what is sent in NOW comes after what the YEARS before have sent
            word(0, 1, 0) = 6
            ofWord(6, 4) = 3
            """);
    }

    private static void draws() {
        Script.edge("Terms 2", "DRAWS: z is told (1 at first); each makes it z * 1103515245 + 12345 (an int), and gives z >>> 8.", Worlds.TWO + """
            count(8) = 1
            word(0, 1, 0) = 0
            count(8) = 1103527590
            word(0, 1, 0) = 1
            # 2524885223 goes round
            count(8) = -1770082073
            word(0, 1, 0) = 2
            count(8) = 662824084
            word(0, 1, 0) = 3
            count(8) = -999580867
            seed(0) = -999580867
            word(0, 1, 0) = 4
            count(8) = 12345
            seed(MAX) = 12345
            word(0, 1, 0) = 5
            count(8) = 1043980748
            seed(MIN) = 1043980748
            word(0, 1, 0) = 6
            count(8) = -2147471303
            """);
        Script.edge("Terms 2", "and gives z >>> 8", Worlds.TWO + """
            # 2524885223 >>> 8 is 9862832, with the rest 2 by 9; as a number below 0 the rest would be below 0, too
            seed(1103527590) = 1
            loss(29) = 1
            word(0, 1, 0) = 0
            ofWord(0, 5) = 1
            seed(1103527590) = -1770082073
            loss(39) = 29
            word(0, 1, 0) = 1
            ofWord(1, 5) = -1
            """);
        Script.edge("Terms 2", "Of each WORD that is sent (by word(), words(), or as a YEAR is LIVED) there is a draw", Worlds.TWO + """
            # even if none is LOST
            word(6, 1, 0) = 0
            count(8) = 1103527590
            sheet(0, 8, 9) = 1
            put(0, 1, 1) = 1
            put(0, 4, 10) = 1
            words(0) = 2
            count(8) = 662824084
            tape(1)
            text(0) = 1
            aim(0, 10) = 1
            live(1) = 1
            count(8) = -999580867
            # where none is sent there is none
            word(7, 1, 0) = BEYOND
            sheet(0, 8, 9) = 1
            words(0) = 0
            aim(0, -1) = 1
            live(5) = 6
            lose(3) = STATE
            count(8) = -999580867
            """);
    }

    private static void losses() {
        // The first draw from z 1 on is 4310654: its rests by 1 to 9.
        int[] rests = {0, 0, 2, 2, 4, 2, 5, 6, 5};
        StringBuilder lines = new StringBuilder(Worlds.TWO);
        int was = 1;
        int z = 1;
        int number = 0;
        for (int q = 1; q <= 9; q++) {
            for (int p = Math.max(0, rests[q - 1] - 1); p <= q && p <= rests[q - 1] + 2; p++) {
                lines.append("loss(" + (10 * p + q) + ") = " + was + "\nseed(1) = " + z + "\n");
                lines.append("word(0, 1, 0) = " + number + "\n");
                lines.append("ofWord(" + number + ", 5) = " + (rests[q - 1] < p ? -1 : 1) + "\n");
                was = 10 * p + q;
                z = 1103527590;
                number++;
            }
        }
        Script.edge("Terms 2", "it is LOST, if the rest by q is below p", lines.toString());
        Script.edge("Terms 2", "it is LOST, if the rest by q is below p", Worlds.TWO + """
            # 12872603 is odd: 0 by 1 all the same
            loss(11) = 1
            seed(662824084) = 1
            word(0, 1, 0) = 0
            ofWord(0, 5) = -1
            loss(1) = 11
            seed(662824084) = -999580867
            word(0, 1, 0) = 1
            ofWord(1, 5) = 1
            """);
        Script.edge("Terms 2", "it is LOST, if the rest by q is below p", Worlds.TWO + """
            # 0 of q loses none, q of q all, by words() and as a YEAR is LIVED, too
            loss(9) = 1
            sheet(0, 8, 12) = 1
            put(0, 1, 1) = 1
            put(0, 4, 1) = 1
            put(0, 7, 1) = 1
            put(0, 10, 1) = 1
            words(0) = 4
            count(3) = 0
            loss(99) = 9
            words(0) = 4
            count(3) = 4
            tape(1)
            text(0) = 1
            aim(0, 10) = 1
            live(3) = 3
            count(2) = 11
            count(3) = 7
            loss(9) = 99
            live(3) = 6
            count(2) = 14
            count(3) = 7
            """);
    }

    private static void aim() {
        Script.edge("Promise 20", "AIM of a PLACE: 10 * another PLACE, and a PACT; -1: none: 1.", """
            place() = 0
            aim(0, -1) = 1
            place() = 1
            aim(0, 10) = 1
            aim(0, 13) = 1
            aim(1, 0) = 1
            aim(1, 3) = 1
            aim(1, -1) = 1
            place() = 2
            place() = 3
            place() = 4
            place() = 5
            aim(0, 53) = 1
            aim(5, 43) = 1
            aim(4, 50) = 1
            """);
        Script.edge("Promise 20", "BEYOND.", Worlds.TWO + """
            aim(0, 14) = BEYOND
            aim(0, 19) = BEYOND
            aim(0, 0) = BEYOND
            aim(0, 3) = BEYOND
            aim(0, 20) = BEYOND
            aim(0, 100) = BEYOND
            aim(0, 110) = BEYOND
            aim(0, -2) = BEYOND
            aim(0, -10) = BEYOND
            aim(0, MIN) = BEYOND
            aim(0, MAX) = BEYOND
            aim(1, 10) = BEYOND
            aim(1, 4) = BEYOND
            aim(2, 0) = BEYOND
            aim(2, -1) = BEYOND
            aim(-1, 0) = BEYOND
            aim(-1, -1) = BEYOND
            aim(MAX, -1) = BEYOND
            # those that are refused left it
            tape(1)
            text(0) = 1
            aim(0, 12) = 1
            aim(0, 20) = BEYOND
            live(1) = 1
            ofWord(0, 2) = 1
            ofWord(0, 3) = 2
            """);
    }

    private static void live() {
        Script.edge("Promise 21", "n (1 to 50) YEARS are LIVED: NOW.", """
            live(1) = 1
            live(50) = 51
            live(2) = 53
            count(0) = 53
            """);
        Script.edge("Promise 21", "BEYOND: n.", """
            live(0) = BEYOND
            live(51) = BEYOND
            live(-1) = BEYOND
            live(MAX) = BEYOND
            live(MIN) = BEYOND
            count(0) = 0
            """);
        Script.edge("Promise 21", "STATE: NOW would be above 399.", Worlds.TWO + Worlds.TO_350 + """
            tape(1)
            text(0) = 1
            aim(0, 10) = 1
            live(50) = STATE
            # none of these is LIVED in part
            count(0) = 350
            count(2) = 0
            live(49) = 399
            count(2) = 49
            ofWord(48, 4) = 398
            ofWord(48, 5) = 399
            live(1) = STATE
            live(50) = STATE
            live(51) = BEYOND
            live(0) = BEYOND
            count(2) = 49
            count(0) = 399
            """);
    }
}
