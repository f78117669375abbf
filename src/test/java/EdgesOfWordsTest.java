/** The edges of WORDS, of DEPTH and of KNOWS: these of the document's part 1, promises 8 to 13 and 16. */
public final class EdgesOfWordsTest {
    private EdgesOfWordsTest() { }

    public static void main(String[] args) {
        many();
        termsAndYears();
        lost();
        depth();
        knowing();
        word();
        ofWord();
        lose();
        as();
        words();
        wordsNotWhole();
        wordsUpToAnError();
        came();
        knows();
        Script.end();
    }

    private static void many() {
        Script.edge("Terms 1", "WORDS 0, 1, .. (at most 80)", Worlds.TWO + Worlds.words(80, 0, 0, 1, 0) + """
            count(2) = 80
            ofWord(79, 0) = 0
            word(0, 1, 0) = FULL
            count(2) = 80
            ofWord(80, 0) = BEYOND
            """);
        StringBuilder kinds = new StringBuilder(Worlds.TWO);
        String[] under = {"0", "01", "012", "03", "04", "035", "06"};
        for (int kind = 0; kind < 7; kind++) {
            kinds.append("word(" + kind + ", 1, 0) = " + kind + "\n");
            for (int above = 0; above < 7; above++) {
                boolean is = under[kind].indexOf('0' + above) >= 0;
                kinds.append("as(" + kind + ", " + above + ") = " + (is ? "20" : "KIND") + "\n");
            }
        }
        Script.edge("Terms 1", "of KINDS 0 WORD; 1 OFFER, 3 DEED, 4 BACK, 6 LATE under WORD; 2 YES under OFFER; 5 FIRM under DEED",
            kinds + "word(7, 1, 0) = BEYOND\nword(-1, 1, 0) = BEYOND\n");
        Script.edge("Terms 1", "each from a PLACE to another one, about a PACT (0 to 3), sent in NOW", Worlds.TWO + """
            word(0, 0, 0) = BEYOND
            word(0, 11, 0) = BEYOND
            word(0, 1, -1) = BEYOND
            word(0, 1, 0) = 0
            live(3) = 3
            word(0, 10, 3) = 1
            word(0, 10, 4) = BEYOND
            ofWord(0, 1) = 0
            ofWord(0, 2) = 1
            ofWord(0, 3) = 0
            ofWord(0, 4) = 0
            ofWord(1, 1) = 1
            ofWord(1, 2) = 0
            ofWord(1, 3) = 3
            ofWord(1, 4) = 3
            """);
    }

    private static void termsAndYears() {
        Script.edge("Terms 1", "with a TERM (0 to 99; as told then, 20 at first)", Worlds.TWO + """
            word(1, 1, 0) = 0
            rule(0, 0) = 20
            word(1, 1, 0) = 1
            rule(0, 99) = 0
            word(1, 1, 0) = 2
            rule(0, 7) = 99
            ofWord(0, 6) = 20
            ofWord(1, 6) = 0
            ofWord(2, 6) = 99
            """);
        Script.edge("Terms 1", "it COMES in the YEAR in which it is sent and WAY (as it is then) together", Worlds.TWO + """
            place() = 2
            near(1, 2, 30) = 0
            word(0, 2, 0) = 0
            ofWord(0, 5) = 31
            near(1, 2, 1) = 30
            word(0, 2, 0) = 1
            ofWord(1, 5) = 2
            ofWord(0, 5) = 31
            near(1, 2, 0) = 1
            ofWord(0, 5) = 31
            live(1) = 1
            came(2, 0, 1) = 0
            live(1) = 2
            came(2, 0, 2) = 1
            came(2, 0, 30) = 1
            came(2, 0, 31) = 2
            """);
        Script.edge("Terms 1", "it COMES in the YEAR in which it is sent and WAY", Worlds.TWO + Worlds.TO_350 + """
            live(48) = 398
            word(0, 1, 0) = 0
            ofWord(0, 5) = 399
            live(1) = 399
            # after the last YEAR: it has that number, and never COMES
            word(0, 1, 0) = 1
            ofWord(1, 5) = 400
            came(1, 0, 399) = 1
            knows(1, 0, 399) = 1
            tell(0) = 1
            check(1, 0) = 0
            """);
        Script.edge("Terms 1", "(a LATE one 2 years later still)", Worlds.TWO + """
            word(6, 1, 0) = 0
            word(5, 1, 0) = 1
            ofWord(0, 5) = 3
            ofWord(1, 5) = 1
            came(1, 0, 0) = 0
            came(1, 0, 1) = 1
            came(1, 0, 2) = 1
            came(1, 0, 3) = 2
            near(0, 1, 30) = 1
            word(6, 10, 0) = 2
            ofWord(2, 5) = 32
            """);
    }

    private static void lost() {
        Script.edge("Terms 1", "It may be LOST (then it never COMES).", Worlds.TWO + """
            word(1, 1, 0) = 0
            word(2, 10, 0) = 1
            word(1, 1, 1) = 2
            lose(1) = 1
            lose(2) = 1
            live(5) = 5
            came(0, 0, 399) = 0
            came(1, 1, 399) = 0
            knows(0, 0, 399) = 0
            # the YES never came, and who says YES to the OFFER that never came offers
            stance(0, 0, 5) = 1
            word(2, 10, 1) = 3
            stance(1, 1, 5) = 1
            ofWord(3, 7) = 1
            check(0, 0) = 0
            # but they were sent
            stance(0, 1, 5) = 1
            stance(1, 0, 5) = 1
            """);
    }

    private static void depth() {
        Script.edge("Terms 1", "DEPTH of a WORD: 1 more than the greatest DEPTH of WORDS about its PACT that COME to who sends it up to the YEAR in which it was sent (0 if there are none).", Worlds.THREE + """
            word(0, 1, 0) = 0
            ofWord(0, 7) = 1
            # not yet come, as it is sent
            word(0, 10, 0) = 1
            ofWord(1, 7) = 1
            live(1) = 1
            # come in that YEAR
            word(0, 10, 0) = 2
            ofWord(2, 7) = 2
            # about another PACT, and who got none
            word(0, 10, 1) = 3
            ofWord(3, 7) = 1
            word(0, 20, 0) = 4
            ofWord(4, 7) = 1
            live(1) = 2
            # the greatest (2) though a later one is less deep (1)
            word(0, 1, 0) = 5
            ofWord(5, 7) = 3
            # what it sent itself doesn't count
            word(0, 1, 0) = 6
            ofWord(6, 7) = 3
            """);
        Script.edge("Terms 1", "the greatest DEPTH of WORDS about its PACT that COME to who sends it", Worlds.THREE + """
            word(0, 1, 0) = 0
            live(1) = 1
            word(0, 12, 0) = 1
            live(1) = 2
            word(0, 20, 0) = 2
            ofWord(2, 7) = 3
            live(1) = 3
            # a less deep one comes after it
            word(0, 10, 0) = 3
            ofWord(3, 7) = 2
            live(1) = 4
            word(0, 1, 0) = 4
            ofWord(4, 7) = 4
            # a LOST one, which would have been 5 deep to answer
            lose(4) = 1
            live(1) = 5
            word(0, 10, 0) = 5
            ofWord(5, 7) = 2
            ofWord(4, 7) = 4
            """);
    }

    private static void knowing() {
        Script.edge("Terms 1", "KNOWS: the greatest DEPTH of WORDS about a PACT that COME to a PLACE up to a YEAR (0: none).", Worlds.THREE + """
            knows(0, 0, 0) = 0
            knows(0, 0, 399) = 0
            word(0, 1, 0) = 0
            live(1) = 1
            word(0, 10, 0) = 1
            live(1) = 2
            word(0, 1, 1) = 2
            word(0, 20, 0) = 3
            live(1) = 3
            knows(0, 0, 1) = 0
            knows(0, 0, 2) = 2
            # the greatest, not the latest
            knows(0, 0, 3) = 2
            knows(1, 0, 0) = 0
            knows(1, 0, 1) = 1
            knows(1, 1, 2) = 0
            knows(1, 1, 3) = 1
            knows(2, 0, 399) = 0
            """);
    }

    private static void word() {
        Script.edge("Promise 8", "A WORD (ft: 10 * from and to): its number.", Worlds.TWO + """
            word(0, 1, 0) = 0
            word(6, 10, 3) = 1
            ofWord(0, 1) = 0
            ofWord(0, 2) = 1
            ofWord(1, 1) = 1
            ofWord(1, 2) = 0
            """);
        StringBuilder pairsOfSix = new StringBuilder(Worlds.SIX);
        int sent = 0;
        for (int from = 0; from < 6; from++) {
            for (int to = 0; to < 6; to++) {
                if (from != to) {
                    pairsOfSix.append("word(0, " + (10 * from + to) + ", 0) = " + sent + "\n");
                    pairsOfSix.append("ofWord(" + sent + ", 1) = " + from + "\nofWord(" + sent + ", 2) = " + to + "\n");
                    pairsOfSix.append("ofWord(" + sent + ", 5) = " + Math.abs(from - to) + "\n");
                    sent++;
                }
            }
        }
        Script.edge("Promise 8", "A WORD (ft: 10 * from and to): its number.", pairsOfSix.toString());
        Script.edge("Promise 8", "BEYOND: KIND", Worlds.TWO + """
            word(-1, 1, 0) = BEYOND
            word(7, 1, 0) = BEYOND
            word(MIN, 1, 0) = BEYOND
            word(MAX, 1, 0) = BEYOND
            word(0, 1, 0) = 0
            word(6, 1, 0) = 1
            """);
        StringBuilder pairs = new StringBuilder(Worlds.THREE);
        int number = 0;
        for (int ft = -23; ft <= 123; ft++) {
            boolean is = ft >= 0 && ft / 10 < 3 && ft % 10 < 3 && ft / 10 != ft % 10;
            pairs.append("word(0, " + ft + ", 0) = " + (is ? number++ : "BEYOND") + "\n");
        }
        Script.edge("Promise 8", "BEYOND: KIND, PLACES (also one twice)", pairs + """
            word(0, MAX, 0) = BEYOND
            word(0, MIN, 0) = BEYOND
            word(0, 2147483601, 0) = BEYOND
            count(2) = 6
            """);
        Script.edge("Promise 8", "BEYOND: KIND, PLACES (also one twice), PACT.", Worlds.TWO + """
            word(0, 1, -1) = BEYOND
            word(0, 1, 4) = BEYOND
            word(0, 1, MIN) = BEYOND
            word(0, 1, MAX) = BEYOND
            word(0, 1, 0) = 0
            word(0, 1, 3) = 1
            """);
        Script.edge("Promise 8", "NONE: there is no WAY.", Worlds.TWO + """
            place() = 2
            word(0, 2, 0) = NONE
            word(0, 20, 0) = NONE
            word(0, 21, 0) = NONE
            near(1, 2, 1) = 0
            word(0, 2, 0) = 0
            near(0, 1, 0) = 1
            word(0, 1, 0) = NONE
            # no draw was made by these
            count(8) = 1103527590
            """);
        Script.edge("Promise 8", "FULL.", Worlds.TWO + Worlds.words(79, 0, 1, 1, 0) + """
            place() = 2
            word(0, 2, 0) = NONE
            word(0, 10, 0) = 79
            word(0, 10, 0) = FULL
            word(0, 2, 0) = NONE
            word(7, 10, 0) = BEYOND
            # LOST ones keep their room
            lose(79) = 1
            word(0, 10, 0) = FULL
            """);
    }

    private static void ofWord() {
        Script.edge("Promise 9", "Of a WORD: 0 KIND, 1 from, 2 to, 3 PACT, 4 the YEAR in which it was sent, 5 in which it COMES (-1: LOST), 6 TERM, 7 DEPTH.", Worlds.THREE + """
            word(0, 21, 3) = 0
            live(4) = 4
            rule(0, 77) = 20
            near(1, 2, 9) = 1
            near(0, 1, 9) = 1
            word(5, 12, 3) = 1
            ofWord(1, 0) = 5
            ofWord(1, 1) = 1
            ofWord(1, 2) = 2
            ofWord(1, 3) = 3
            ofWord(1, 4) = 4
            ofWord(1, 5) = 13
            ofWord(1, 6) = 77
            ofWord(1, 7) = 2
            lose(1) = 1
            ofWord(1, 5) = -1
            ofWord(1, 4) = 4
            ofWord(1, 7) = 2
            """);
        Script.edge("Promise 9", "BEYOND.", Worlds.TWO + """
            ofWord(0, 0) = BEYOND
            word(0, 1, 0) = 0
            ofWord(0, 0) = 0
            ofWord(0, 7) = 1
            ofWord(0, 8) = BEYOND
            ofWord(0, -1) = BEYOND
            ofWord(0, MAX) = BEYOND
            ofWord(0, MIN) = BEYOND
            ofWord(1, 0) = BEYOND
            ofWord(-1, 0) = BEYOND
            ofWord(MAX, 0) = BEYOND
            ofWord(MIN, 0) = BEYOND
            """);
    }

    private static void lose() {
        Script.edge("Promise 10", "A WORD is LOST: 1.", Worlds.TWO + """
            word(0, 1, 0) = 0
            word(0, 1, 0) = 1
            word(0, 1, 0) = 2
            lose(1) = 1
            count(3) = 1
            ofWord(0, 5) = 1
            ofWord(1, 5) = -1
            ofWord(2, 5) = 1
            came(1, 0, 399) = 2
            # no draw, no room for another one
            count(2) = 3
            lose(0) = 1
            lose(2) = 1
            came(1, 0, 399) = 0
            count(3) = 3
            """);
        Script.edge("Promise 10", "BEYOND.", Worlds.TWO + """
            lose(0) = BEYOND
            word(0, 1, 0) = 0
            lose(1) = BEYOND
            lose(-1) = BEYOND
            lose(MAX) = BEYOND
            lose(MIN) = BEYOND
            lose(0) = 1
            """);
        Script.edge("Promise 10", "STATE: it is so already", Worlds.TWO + """
            word(0, 1, 0) = 0
            lose(0) = 1
            lose(0) = STATE
            # LOST by a draw
            loss(11) = 1
            word(0, 1, 0) = 1
            lose(1) = STATE
            live(9) = 9
            lose(0) = STATE
            count(3) = 2
            """);
        Script.edge("Promise 10", "or it COMES in NOW or came.", Worlds.TWO + """
            near(0, 1, 2) = 1
            word(0, 1, 0) = 0
            word(6, 1, 0) = 1
            live(1) = 1
            image() = 1
            # in the YEAR ahead of that in which it COMES
            lose(0) = 1
            restore() = 1
            live(1) = 2
            lose(0) = STATE
            live(1) = 3
            lose(0) = STATE
            lose(1) = 1
            count(3) = 1
            """);
        Script.edge("Promise 10", "or it COMES in NOW", Worlds.TWO + Worlds.TO_350 + """
            live(48) = 398
            word(0, 1, 0) = 0
            live(1) = 399
            lose(0) = STATE
            # this one would COME after the last YEAR
            word(0, 1, 0) = 1
            lose(1) = 1
            lose(1) = STATE
            """);
    }

    private static void as() {
        Script.edge("Promise 11", "A WORD as one of a KIND: its TERM.", Worlds.TWO + """
            rule(0, 0) = 20
            word(2, 1, 0) = 0
            rule(0, 99) = 0
            word(5, 1, 0) = 1
            as(0, 2) = 0
            as(0, 1) = 0
            as(0, 0) = 0
            as(1, 5) = 99
            as(1, 3) = 99
            as(1, 0) = 99
            """);
        Script.edge("Promise 11", "BEYOND.", Worlds.TWO + """
            as(0, 0) = BEYOND
            word(6, 1, 0) = 0
            as(0, 6) = 20
            as(0, 7) = BEYOND
            as(0, -1) = BEYOND
            as(0, MAX) = BEYOND
            as(0, MIN) = BEYOND
            as(1, 0) = BEYOND
            as(-1, 0) = BEYOND
            as(MAX, 0) = BEYOND
            """);
        Script.edge("Promise 11", "KIND: it isn't of that KIND, nor of one under it.", Worlds.TWO + """
            word(0, 1, 0) = 0
            word(1, 1, 0) = 1
            word(2, 1, 0) = 2
            word(3, 1, 0) = 3
            word(5, 1, 0) = 4
            # a WORD isn't an OFFER, nor an OFFER a YES
            as(0, 1) = KIND
            as(0, 6) = KIND
            as(1, 2) = KIND
            as(2, 3) = KIND
            as(2, 5) = KIND
            as(3, 5) = KIND
            as(4, 1) = KIND
            as(4, 2) = KIND
            as(4, 4) = KIND
            told(5) = 9
            """);
    }

    private static void words() {
        StringBuilder thirteen = new StringBuilder(Worlds.TWO + "sheet(3, 32, 40) = 1\n");
        for (int i = 0; i < 13; i++) {
            thirteen.append("put(3, " + 3 * i + ", " + i % 7 + ") = 1\n");
            thirteen.append("put(3, " + (3 * i + 1) + ", " + (i % 2 == 0 ? 1 : 10) + ") = 1\n");
            thirteen.append("put(3, " + (3 * i + 2) + ", " + i % 4 + ") = 1\n");
        }
        // The last number of 40 is no three.
        thirteen.append("words(3) = 13\ncount(2) = 13\n");
        for (int i = 0; i < 13; i++) {
            thirteen.append("ofWord(" + i + ", 0) = " + i % 7 + "\n");
            thirteen.append("ofWord(" + i + ", 1) = " + i % 2 + "\n");
            thirteen.append("ofWord(" + i + ", 2) = " + (1 - i % 2) + "\n");
            thirteen.append("ofWord(" + i + ", 3) = " + i % 4 + "\n");
        }
        Script.edge("Promise 12", "WORDS from a SHEET: threes (KIND, ft, PACT), from number 0 on", thirteen.toString());
        StringBuilder pairs = new StringBuilder(Worlds.SIX + "sheet(0, 8, 3) = 1\nput(0, 2, 3) = 1\n");
        int number = 0;
        for (int from = 0; from < 6; from++) {
            for (int to = 0; to < 6; to++) {
                pairs.append("put(0, 1, " + (10 * from + to) + ") = 1\nwords(0) = " + (from == to ? 0 : 1) + "\n");
                if (from != to) {
                    pairs.append("ofWord(" + number + ", 1) = " + from + "\nofWord(" + number + ", 2) = " + to + "\n");
                    pairs.append("ofWord(" + number + ", 5) = " + Math.abs(from - to) + "\n");
                    number++;
                }
            }
        }
        Script.edge("Promise 12", "threes (KIND, ft, PACT)", pairs.toString());
        Script.edge("Promise 12", "BEYOND: no such SHEET.", """
            sheet(0, 8, 3) = 1
            sheet(3, 8, 3) = 1
            words(0) = 0
            words(3) = 0
            words(4) = BEYOND
            words(-1) = BEYOND
            words(MAX) = BEYOND
            words(MIN) = BEYOND
            """);
        Script.edge("Promise 12", "NONE: it is missing.", """
            words(0) = NONE
            sheet(0, 8, 0) = 1
            words(0) = 0
            words(1) = NONE
            sheet(0, 0, 0) = 1
            words(0) = NONE
            """);
    }

    private static void wordsNotWhole() {
        StringBuilder lines = new StringBuilder(Worlds.TWO);
        int sent = 0;
        for (int n = 0; n <= 7; n++) {
            lines.append("sheet(0, 8, " + n + ") = 1\n");
            for (int i = 1; i < n; i += 3) {
                lines.append("put(0, " + i + ", 1) = 1\n");
            }
            sent += n / 3;
            lines.append("words(0) = " + n / 3 + "\ncount(2) = " + sent + "\n");
        }
        Script.edge("Promise 12", "or that isn't whole: how many came.", lines.toString());
    }

    private static void wordsUpToAnError() {
        String three = """
            sheet(0, 16, 9) = 1
            put(0, 1, 1) = 1
            put(0, 4, 1) = 1
            put(0, 7, 1) = 1
            """;
        String[] faults = {"3, 7", "3, -1", "4, 0", "4, 11", "4, 3", "4, 30", "4, -1", "5, 4", "5, -1"};
        for (String fault : faults) {
            Script.edge("Promise 12", "up to the first with which word() would answer an ERROR", Worlds.TWO + three
                + "put(0, " + fault + ") = 1\nwords(0) = 1\ncount(2) = 1\ncount(8) = 1103527590\ntold(1) = 0\n");
        }
        Script.edge("Promise 12", "up to the first with which word() would answer an ERROR", Worlds.TWO + three + """
            place() = 2
            # there is no WAY to 2: NONE, which isn't told
            put(0, 4, 2) = 1
            words(0) = 1
            told(2) = 0
            put(0, 1, 2) = 1
            words(0) = 0
            count(2) = 1
            near(1, 2, 1) = 0
            words(0) = 3
            """);
        Script.edge("Promise 12", "up to the first with which word() would answer an ERROR", Worlds.TWO + three
            + Worlds.words(78, 0, 0, 10, 3) + """
            words(0) = 2
            count(2) = 80
            words(0) = 0
            told(4) = 0
            word(0, 1, 0) = FULL
            """);
    }

    private static void came() {
        Script.edge("Promise 13", "How many WORDS about a PACT (of those that were sent) COME to a PLACE up to a YEAR (0 to 399, above NOW, too).", Worlds.TWO + """
            near(0, 1, 30) = 1
            came(1, 0, 399) = 0
            word(0, 1, 0) = 0
            word(6, 1, 0) = 1
            word(0, 1, 1) = 2
            word(0, 10, 0) = 3
            came(1, 0, 0) = 0
            came(1, 0, 29) = 0
            came(1, 0, 30) = 1
            came(1, 0, 31) = 1
            came(1, 0, 32) = 2
            came(1, 0, 399) = 2
            came(1, 1, 29) = 0
            came(1, 1, 30) = 1
            came(0, 0, 30) = 1
            came(0, 1, 399) = 0
            live(50) = 50
            came(1, 0, 29) = 0
            came(1, 0, 30) = 1
            """);
        Script.edge("Promise 13", "BEYOND.", Worlds.TWO + """
            came(0, 0, 399) = 0
            came(0, 0, 400) = BEYOND
            came(0, 0, -1) = BEYOND
            came(0, 0, MAX) = BEYOND
            came(0, 0, MIN) = BEYOND
            came(1, 3, 0) = 0
            came(1, 4, 0) = BEYOND
            came(1, -1, 0) = BEYOND
            came(2, 0, 0) = BEYOND
            came(-1, 0, 0) = BEYOND
            came(MAX, 0, 0) = BEYOND
            came(0, MIN, 0) = BEYOND
            """);
    }

    private static void knows() {
        Script.edge("Promise 16", "KNOWS (YEAR as in came()).", Worlds.TWO + """
            near(0, 1, 30) = 1
            word(0, 1, 0) = 0
            knows(1, 0, 0) = 0
            knows(1, 0, 29) = 0
            knows(1, 0, 30) = 1
            knows(1, 0, 399) = 1
            live(30) = 30
            word(0, 10, 0) = 1
            knows(0, 0, 59) = 0
            knows(0, 0, 60) = 2
            knows(1, 0, 399) = 1
            """);
        Script.edge("Promise 16", "BEYOND.", Worlds.TWO + """
            knows(0, 0, 399) = 0
            knows(0, 0, 400) = BEYOND
            knows(0, 0, -1) = BEYOND
            knows(0, 0, MAX) = BEYOND
            knows(0, 0, MIN) = BEYOND
            knows(1, 3, 0) = 0
            knows(1, 4, 0) = BEYOND
            knows(1, -1, 0) = BEYOND
            knows(2, 0, 0) = BEYOND
            knows(-1, 0, 0) = BEYOND
            knows(MIN, 0, 0) = BEYOND
            knows(0, MAX, 0) = BEYOND
            """);
    }
}
