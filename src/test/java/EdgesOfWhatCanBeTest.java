/** The edges of what can be: the document's part 3, promises 22 to 33. */
public final class EdgesOfWhatCanBeTest {
    private EdgesOfWhatCanBeTest() { }

    public static void main(String[] args) {
        soonest();
        soon();
        chances();
        odds();
        chancesEnough();
        enough();
        payments();
        pays();
        resting();
        rest();
        answers();
        answer();
        works();
        work();
        blinds();
        edges();
        twoMinds();
        mindsInOrder();
        minds();
        generations();
        heirs();
        ships();
        goods();
        Script.end();
    }

    private static void soonest() {
        Script.edge("Terms 3", "SOON: the first YEAR in which a pact of n words (1 to 9), each an answer to the one ahead, the first sent NOW, can be there for sure, if at most l (0 to 9) of all are lost", Worlds.TWO + """
            near(0, 1, 30) = 1
            soon(1, 1, 0) = 30
            soon(1, 0, 0) = BEYOND
            soon(1, 9, 0) = 270
            soon(1, 10, 0) = BEYOND
            soon(1, 1, 9) = 39
            soon(1, 1, 10) = BEYOND
            soon(1, 1, -1) = BEYOND
            soon(1, 9, 9) = 279
            soon(10, 9, 9) = 279
            """);
        Script.edge("Terms 3", "n times WAY and l years from NOW on.", Worlds.TWO + """
            place() = 2
            near(1, 2, 4) = 0
            live(7) = 7
            # WAY is 5, by a third PLACE
            soon(2, 3, 2) = 24
            soon(20, 1, 0) = 12
            # LOSS is none of it
            loss(99) = 1
            soon(2, 3, 2) = 24
            """);
    }

    private static void soon() {
        StringBuilder pairs = new StringBuilder(Worlds.SIX);
        for (int from = 0; from < 6; from++) {
            for (int to = 0; to < 6; to++) {
                pairs.append("soon(" + (10 * from + to) + ", 2, 1) = " + (from == to ? "BEYOND" : 1 + 2 * Math.abs(from - to)) + "\n");
            }
        }
        Script.edge("Promise 22", "SOON.", pairs.toString());
        Script.edge("Promise 22", "BEYOND: PLACES (also one twice), n, l.", Worlds.TWO + """
            soon(0, 1, 0) = BEYOND
            soon(11, 1, 0) = BEYOND
            soon(2, 1, 0) = BEYOND
            soon(20, 1, 0) = BEYOND
            soon(101, 1, 0) = BEYOND
            soon(-1, 1, 0) = BEYOND
            soon(-10, 1, 0) = BEYOND
            soon(MIN, 1, 0) = BEYOND
            soon(MAX, 1, 0) = BEYOND
            soon(1, 0, 0) = BEYOND
            soon(1, -1, 0) = BEYOND
            soon(1, 10, 0) = BEYOND
            soon(1, MAX, 0) = BEYOND
            soon(1, MIN, 0) = BEYOND
            soon(1, 1, -1) = BEYOND
            soon(1, 1, 10) = BEYOND
            soon(1, 1, MAX) = BEYOND
            soon(1, 1, MIN) = BEYOND
            soon(1, 9, 9) = 18
            """);
        Script.edge("Promise 22", "NONE: there is no WAY, or it is above 399.", Worlds.TWO + """
            place() = 2
            soon(2, 1, 0) = NONE
            soon(20, 9, 9) = NONE
            near(0, 1, 30) = 1
            live(50) = 50
            live(50) = 100
            live(20) = 120
            soon(1, 9, 9) = 399
            live(1) = 121
            soon(1, 9, 9) = NONE
            soon(1, 9, 8) = 399
            near(1, 2, 30) = 0
            soon(2, 9, 9) = NONE
            soon(2, 4, 9) = 370
            soon(2, 5, 0) = NONE
            told(2) = 5
            """);
    }

    private static void chances() {
        Script.edge("Terms 3", "ODDS that of n words (1 to 4) each COMES, if each is said r times (1 to 4), and LOSS is p of q", """
            loss(13) = 1
            # 2/3 and 1 - 1/81 to the 4th
            odds(1, 1, 0) = 2
            odds(1, 1, 1) = 3
            odds(4, 1, 0) = 16
            odds(4, 1, 1) = 81
            odds(1, 4, 0) = 80
            odds(1, 4, 1) = 81
            odds(4, 4, 0) = 40960000
            odds(4, 4, 1) = 43046721
            odds(0, 1, 0) = BEYOND
            odds(5, 1, 0) = BEYOND
            odds(1, 0, 0) = BEYOND
            odds(1, 5, 0) = BEYOND
            # the greatest of all: 6560 to the 4th
            loss(19) = 13
            odds(4, 4, 0) = 1851890728960000
            odds(4, 4, 1) = 1853020188851841
            """);
        Script.edge("Terms 3", "as a fraction in lowest terms.", """
            # none, or all, are LOST
            odds(4, 4, 0) = 1
            odds(4, 4, 1) = 1
            loss(9) = 1
            odds(4, 4, 0) = 1
            odds(4, 4, 1) = 1
            loss(99) = 9
            odds(4, 4, 0) = 0
            odds(4, 4, 1) = 1
            loss(11) = 99
            odds(1, 1, 0) = 0
            odds(1, 1, 1) = 1
            # 3 of 6 is 1 of 2: 27 of 36 is 3 of 4
            loss(36) = 11
            odds(1, 2, 0) = 3
            odds(1, 2, 1) = 4
            odds(4, 2, 0) = 81
            odds(4, 2, 1) = 256
            # 6 of 8: 1 - 81/256
            loss(68) = 36
            odds(1, 4, 0) = 175
            odds(1, 4, 1) = 256
            odds(2, 1, 0) = 1
            odds(2, 1, 1) = 16
            """);
    }

    private static void odds() {
        Script.edge("Promise 23", "ODDS: part 0 above, 1 below the line.", "loss(12) = 1\nodds(1, 2, 0) = 3\nodds(1, 2, 1) = 4\n");
        Script.edge("Promise 23", "BEYOND.", """
            odds(0, 1, 0) = BEYOND
            odds(5, 1, 0) = BEYOND
            odds(-1, 1, 0) = BEYOND
            odds(MAX, 1, 0) = BEYOND
            odds(1, 0, 0) = BEYOND
            odds(1, 5, 0) = BEYOND
            odds(1, -1, 0) = BEYOND
            odds(1, MIN, 0) = BEYOND
            odds(1, 1, -1) = BEYOND
            odds(1, 1, 2) = BEYOND
            odds(1, 1, MAX) = BEYOND
            odds(4, 4, 1) = 1
            """);
    }

    private static void chancesEnough() {
        Script.edge("Terms 3", "ENOUGH: the least r (1 to 4) with which ODDS are x hundredths or more.", """
            # 1/2, 3/4, 7/8, 15/16
            loss(12) = 1
            enough(1, 49) = 1
            enough(1, 50) = 1
            enough(1, 51) = 2
            enough(1, 75) = 2
            enough(1, 76) = 3
            enough(1, 87) = 3
            enough(1, 88) = 4
            enough(1, 93) = 4
            enough(1, 94) = NONE
            # 8/9, 80/81, 728/729, 6560/6561 to the 4th: 62.4, 95.1, 99.4, 99.9
            loss(19) = 12
            enough(4, 62) = 1
            enough(4, 63) = 2
            enough(4, 95) = 2
            enough(4, 96) = 3
            enough(4, 99) = 3
            enough(4, 100) = NONE
            # 1/5, 9/25: 20 and 36 hundredths, neither more nor less
            loss(45) = 19
            enough(1, 20) = 1
            enough(1, 21) = 2
            enough(1, 36) = 2
            enough(1, 37) = 3
            """);
    }

    private static void enough() {
        Script.edge("Promise 24", "ENOUGH for x (0 to 100).", """
            enough(1, 100) = 1
            enough(4, 100) = 1
            enough(4, 0) = 1
            loss(12) = 1
            enough(1, 0) = 1
            # 7/8 to the 2nd is 76.6, 15/16 to the 3rd 82.4
            enough(2, 76) = 3
            enough(2, 77) = 4
            enough(3, 82) = 4
            enough(3, 83) = NONE
            """);
        Script.edge("Promise 24", "BEYOND.", """
            enough(0, 50) = BEYOND
            enough(5, 50) = BEYOND
            enough(-1, 50) = BEYOND
            enough(MAX, 50) = BEYOND
            enough(1, -1) = BEYOND
            enough(1, 101) = BEYOND
            enough(1, MIN) = BEYOND
            enough(1, MAX) = BEYOND
            """);
        Script.edge("Promise 24", "NONE.", """
            loss(99) = 1
            enough(1, 0) = 1
            enough(1, 1) = NONE
            enough(4, 100) = NONE
            loss(11) = 99
            enough(4, 1) = NONE
            told(2) = 3
            """);
    }

    private static void payments() {
        Script.edge("Terms 3", "PAYS of a PACT, for side 0, 1 (-99 to 99; 0 at first)", """
            pays(0, -99) = 0
            pays(0, -100) = BEYOND
            pays(0, 99) = -99
            pays(0, 100) = BEYOND
            pays(0, 0) = 99
            pays(73, -99) = 0
            pays(73, 0) = -99
            pays(10, 1) = 0
            pays(0, 1) = 0
            """);
        Script.edge("Terms 3", "by what that side does and what the other does (0 leaves it, 1 keeps it)", """
            # side 0 has 5 if it keeps it and the other leaves it
            pays(2, 5) = 0
            answer(0, 0, 0) = 1
            answer(0, 0, 1) = 0
            answer(0, 1, 0) = 0
            answer(0, 1, 1) = 0
            # side 1 has 5 if it leaves it and the other keeps it, and 6 if both keep it
            pays(11, 5) = 0
            answer(0, 1, 1) = 0
            pays(13, 6) = 0
            answer(0, 1, 1) = 1
            answer(0, 1, 0) = 0
            """);
    }

    private static void pays() {
        StringBuilder lines = new StringBuilder();
        for (int at = -4; at <= 84; at++) {
            boolean is = at >= 0 && at < 80 && at % 10 <= 3;
            lines.append("pays(" + at + ", " + at + ") = " + (is ? "0" : "BEYOND") + "\n");
        }
        for (int at = 0; at < 80; at++) {
            if (at % 10 <= 3) {
                lines.append("pays(" + at + ", -1) = " + at + "\n");
            }
        }
        Script.edge("Promise 25", "at: 20 * PACT, 10 * side, and as the last digit 2 * what that side does and what the other does (0 to 3), together.",
            lines.toString());
        Script.edge("Promise 25", "PAYS of a PACT for a side become v: what they were.", """
            pays(33, 7) = 0
            pays(33, -7) = 7
            pays(33, -7) = -7
            pays(33, 0) = -7
            """);
        Script.edge("Promise 25", "BEYOND.", """
            pays(4, 0) = BEYOND
            pays(9, 0) = BEYOND
            pays(14, 0) = BEYOND
            pays(74, 0) = BEYOND
            pays(79, 0) = BEYOND
            pays(80, 0) = BEYOND
            pays(90, 0) = BEYOND
            pays(100, 0) = BEYOND
            pays(-1, 0) = BEYOND
            pays(-10, 0) = BEYOND
            pays(MAX, 0) = BEYOND
            pays(MIN, 0) = BEYOND
            pays(0, 100) = BEYOND
            pays(0, -100) = BEYOND
            pays(0, MAX) = BEYOND
            pays(0, MIN) = BEYOND
            pays(0, 0) = 0
            """);
    }

    /** What both sides of a PACT have: 00, 01, 10, 11, by what one does and what the other does. */
    private static String both(int pact, int... pays) {
        StringBuilder lines = new StringBuilder();
        for (int i = 0; i < 4; i++) {
            lines.append("pays(" + (20 * pact + i) + ", " + pays[i] + ") = 0\n");
            lines.append("pays(" + (20 * pact + 10 + i) + ", " + pays[i] + ") = 0\n");
        }
        return lines.toString();
    }

    private static void resting() {
        Script.edge("Terms 3", "REST: pairs (what 0 does, twice, and what 1 does: 0 to 3) in which neither side has more by doing otherwise, as bits.",
            // Each would rather leave it, whatever the other does; as the other does; otherwise than the other does.
            both(0, 1, 3, 0, 2) + both(1, 1, 1, 0, 2) + both(2, 0, 3, 1, 2) + both(3, 0, 0, 1, 1) + """
            rest(0) = 1
            rest(1) = 9
            rest(2) = 6
            rest(3) = 8
            """);
        Script.edge("Terms 3", "REST: pairs (what 0 does, twice, and what 1 does: 0 to 3)", """
            # side 0 keeps it, side 1 leaves it: 2 * 1 and 0
            pays(2, 1) = 0
            pays(3, 1) = 0
            pays(10, 1) = 0
            pays(11, 1) = 0
            rest(0) = 4
            # the other way round
            pays(20, 1) = 0
            pays(21, 1) = 0
            pays(32, 1) = 0
            pays(33, 1) = 0
            rest(1) = 2
            # 0 would do as 1 does, 1 would not
            pays(40, 1) = 0
            pays(43, 1) = 0
            pays(51, 1) = 0
            pays(52, 1) = 0
            rest(2) = 0
            """);
        Script.edge("Terms 3", "in which neither side has more by doing otherwise", """
            # as much is not more
            rest(0) = 15
            pays(0, 99) = 0
            rest(0) = 11
            pays(2, 98) = 0
            rest(0) = 11
            pays(2, 99) = 98
            rest(0) = 15
            pays(0, -99) = 99
            rest(0) = 14
            """);
    }

    private static void rest() {
        Script.edge("Promise 26", "REST of a PACT, as bits.", """
            pays(60, 1) = 0
            rest(3) = 11
            rest(2) = 15
            rest(0) = 15
            """);
        Script.edge("Promise 26", "BEYOND.", """
            rest(4) = BEYOND
            rest(-1) = BEYOND
            rest(MAX) = BEYOND
            rest(MIN) = BEYOND
            """);
    }

    private static void answers() {
        Script.edge("Terms 3", "ANSWER of a side to what the other does: what has more, of like ones 0.", """
            answer(1, 0, 0) = 0
            answer(1, 1, 1) = 0
            pays(22, 1) = 0
            answer(1, 0, 0) = 1
            pays(20, 1) = 0
            answer(1, 0, 0) = 0
            pays(20, 2) = 1
            answer(1, 0, 0) = 0
            pays(31, -1) = 0
            answer(1, 1, 1) = 1
            pays(33, -1) = 0
            answer(1, 1, 1) = 0
            # the farthest apart
            pays(21, -99) = 0
            pays(23, 99) = 0
            answer(1, 0, 1) = 1
            """);
    }

    private static void answer() {
        Script.edge("Promise 27", "ANSWER of a side of a PACT to what the other does.", """
            pays(73, 1) = 0
            answer(3, 1, 1) = 1
            answer(3, 1, 0) = 0
            answer(3, 0, 1) = 0
            answer(2, 1, 1) = 0
            """);
        Script.edge("Promise 27", "BEYOND.", """
            answer(4, 0, 0) = BEYOND
            answer(-1, 0, 0) = BEYOND
            answer(MAX, 0, 0) = BEYOND
            answer(0, 2, 0) = BEYOND
            answer(0, -1, 0) = BEYOND
            answer(0, MIN, 0) = BEYOND
            answer(0, 0, 2) = BEYOND
            answer(0, 0, -1) = BEYOND
            answer(0, 0, MAX) = BEYOND
            answer(3, 1, 1) = 0
            """);
    }

    private static void works() {
        Script.edge("Terms 3", "WORKS 0, 1, .. (at most 8): COST, WORTH (0 to 999 each).", """
            work(-1, 0) = BEYOND
            work(0, -1) = BEYOND
            work(1000, 0) = BEYOND
            work(0, 1000) = BEYOND
            edge(0, 1) = BEYOND
            work(0, 0) = 0
            work(999, 999) = 1
            work(0, 999) = 2
            work(999, 0) = 3
            work(1, 1) = 4
            work(2, 2) = 5
            work(3, 3) = 6
            edge(7, 1) = BEYOND
            work(4, 9) = 7
            edge(7, 1) = 1
            work(5, 5) = FULL
            count(4) = 8
            edge(8, 1) = BEYOND
            """);
    }

    private static void work() {
        Script.edge("Promise 28", "A WORK: its number.", "work(5, 6) = 0\nwork(5, 6) = 1\ncount(4) = 2\n");
        Script.edge("Promise 28", "BEYOND.", """
            work(-1, 5) = BEYOND
            work(1000, 5) = BEYOND
            work(MIN, 5) = BEYOND
            work(MAX, 5) = BEYOND
            work(5, -1) = BEYOND
            work(5, 1000) = BEYOND
            work(5, MIN) = BEYOND
            work(5, MAX) = BEYOND
            count(4) = 0
            work(0, 999) = 0
            work(999, 0) = 1
            """);
        Script.edge("Promise 28", "FULL.", Worlds.works(7) + """
            image() = 1
            work(7, 7) = 7
            2x work(7, 7) = FULL
            work(7, 1000) = BEYOND
            restore() = 0
            work(8, 9) = 7
            work(0, 0) = FULL
            edge(7, 1) = 1
            """);
    }

    private static void blinds() {
        Script.edge("Terms 3", "BLIND with p of q that the other begins, too: 1, if WORTH times p is above COST times q, else 0.", """
            work(1, 2) = 0
            work(999, 999) = 1
            work(998, 999) = 2
            work(0, 1) = 3
            work(0, 0) = 4
            # 2 times 1 isn't above 1 times 2
            blind(0, 12) = 0
            blind(0, 22) = 1
            blind(0, 59) = 1
            blind(0, 49) = 0
            blind(0, 2) = 0
            blind(1, 99) = 0
            blind(2, 99) = 1
            blind(2, 89) = 0
            blind(3, 1) = 0
            blind(3, 19) = 1
            blind(4, 11) = 0
            """);
        Script.edge("Promise 29", "BLIND: with p of q (10 * p and q).", "work(1, 3) = 0\nblind(0, 13) = 0\nblind(0, 23) = 1\nblind(0, 37) = 1\n");
        StringBuilder lines = new StringBuilder("work(0, 1) = 0\n");
        for (int pq = -12; pq <= 112; pq++) {
            boolean is = pq > 0 && pq % 10 != 0 && pq / 10 <= pq % 10;
            lines.append("blind(0, " + pq + ") = " + (is ? pq < 10 ? "0" : "1" : "BEYOND") + "\n");
        }
        Script.edge("Promise 29", "BEYOND.", lines + """
            blind(0, MAX) = BEYOND
            blind(0, MIN) = BEYOND
            blind(1, 11) = BEYOND
            blind(-1, 11) = BEYOND
            blind(MAX, 11) = BEYOND
            blind(MIN, 11) = BEYOND
            """);
    }

    private static void edges() {
        Script.edge("Terms 3", "EDGE by q: the least p for which it is 1.", """
            work(1, 2) = 0
            work(0, 1) = 1
            work(998, 999) = 2
            work(1, 3) = 3
            # above a half: 5 of 9, 5 of 8
            edge(0, 9) = 5
            edge(0, 8) = 5
            edge(0, 1) = 1
            edge(0, 2) = 2
            # 0 of q is never enough
            edge(1, 9) = 1
            edge(1, 1) = 1
            edge(2, 9) = 9
            edge(3, 3) = 2
            edge(3, 2) = 1
            """);
        Script.edge("Promise 30", "EDGE by q (1 to 9).", "work(4, 5) = 0\nedge(0, 1) = 1\nedge(0, 9) = 8\n");
        Script.edge("Promise 30", "BEYOND.", """
            edge(0, 1) = BEYOND
            work(1, 5) = 0
            edge(0, 0) = BEYOND
            edge(0, 10) = BEYOND
            edge(0, -1) = BEYOND
            edge(0, MAX) = BEYOND
            edge(0, MIN) = BEYOND
            edge(1, 1) = BEYOND
            edge(-1, 1) = BEYOND
            edge(MAX, 1) = BEYOND
            edge(0, 9) = 2
            """);
        Script.edge("Promise 30", "NONE: for no p up to q.", """
            work(5, 5) = 0
            work(0, 0) = 1
            work(999, 0) = 2
            work(5, 6) = 3
            edge(0, 9) = NONE
            edge(1, 1) = NONE
            edge(2, 9) = NONE
            # q itself
            edge(3, 5) = 5
            edge(3, 1) = 1
            told(2) = 3
            """);
    }

    /** What a RULE's TEXT makes: how many are of TWO MINDS, and the first of these. */
    private static String ruled(String text, int many, String first) {
        return "tape(" + text + ")\ntext(6) = 1\nminds(0, 0) = " + many + "\nminds(0, 1) = " + first + "\n";
    }

    private static void twoMinds() {
        Script.edge("Terms 3", "two PLACES a and b (a below b, 0 to 5)",
            // Where just one of the two gives way, they take the same one: 10 of the 15 pairs are without 0, or 5.
            ruled("a=0", 600, "12010") + ruled("a=5", 600, "1010") + ruled("a=6", 900, "1010") + ruled("b=0", 600, "12010")
                + ruled("b=5", 600, "1010") + ruled("b=6", 900, "1010") + ruled("a<b", 0, "NONE") + ruled("a>b", 0, "NONE")
                + ruled("a=b", 900, "1010"));
        Script.edge("Terms 3", "made offers with numbers o and t (0 to 3, unlike)",
            ruled("o=0", 450, "1120") + ruled("o=3", 450, "1010") + ruled("o=4", 900, "1010") + ruled("t=3", 450, "1010")
                + ruled("t=0", 450, "1120") + ruled("o=t", 900, "1010") + ruled("o<t", 0, "NONE") + ruled("o>2", 450, "1010"));
        Script.edge("Terms 3", "t's YEAR being e later (-2 to 2)",
            ruled("r=2", 540, "1011") + ruled("r=0-2", 540, "1011") + ruled("r=3", 900, "1010") + ruled("r=0-3", 900, "1010")
                + ruled("r=1", 540, "1010") + ruled("r=0", 900, "1010") + ruled("r<0", 180, "1012"));
        Script.edge("Terms 3", "a takes the other's, if the RULE of it (o, t, its own YEAR less that of the other: 0 less e, a, b) isn't 0, else its own",
            // PLACE 0 with 1 against 5's 3, two years ahead of it: 0 keeps its own, where 0 alone would give way.
            ruled("a<b&!(a=0&b=5&o=1&t=3&r=0-2)", 1, "5134") + ruled("a<b&!(a=0&b=5&o=1&t=3&r=2)", 1, "5130")
                + ruled("0-1", 900, "1010") + ruled("(a<b)*(0-5)", 0, "NONE") + ruled("(a<b)*9999*9999*9999", 0, "NONE"));
        Script.edge("Terms 3", "b likewise (t, o, e, b, a)",
            ruled("a>b&!(a=5&b=0&o=3&t=1&r=2)", 1, "5134") + ruled("a>b&!(a=5&b=0&o=3&t=1&r=0-2)", 1, "5130"));
        Script.edge("Terms 3", "They are of TWO MINDS, if they don't take the same one.",
            // Each its own, each the other's, all that of 0.
            ruled("0", 900, "1010") + ruled("1", 900, "1010") + ruled("a", 600, "12010") + ruled("!a", 600, "12010"));
    }

    private static void mindsInOrder() {
        Script.edge("Terms 3", "All are gone through by a, b, o, t, e.",
            ruled("a<b|a=5&b=0&o=2&t=3&r=2|a=2&b=1&o=1&t=0&r=0-2", 2, "5324")
                + ruled("a<b|a=1&b=0&o=2&t=3&r=2|a=2&b=0&o=1&t=0&r=0-2", 2, "1324")
                + ruled("a<b|a=1&b=0&o=3&t=0&r=2|a=1&b=0&o=0&t=1&r=0-2", 2, "1034")
                + ruled("a<b|a=1&b=0&o=1&t=0&r=2|a=1&b=0&o=2&t=0&r=0-2", 2, "1014")
                + ruled("a<b|a=1&b=0&o=1&t=0&r=2|a=1&b=0&o=1&t=0&r=0-2", 2, "1010")
                // The last of all.
                + ruled("a<b|a=5&b=4&o=2&t=3&r=2", 1, "45324"));
    }

    private static void minds() {
        Script.edge("Promise 31", "Of RULE 0, 1 (USE 6, 7): what 0 how many are of TWO MINDS; 1 the first of these: 10000 * a, 1000 * b, 100 * o, 10 * t, and e with 2 added.", """
            tape(o<t)
            text(6) = 1
            tape(r>0)
            text(7) = 1
            minds(0, 0) = 0
            minds(1, 0) = 180
            minds(1, 1) = 1012
            tape(o<t&!(a=3&b=4&o=1&t=2&r=1))
            text(7) = 1
            minds(1, 0) = 1
            # e is 1 earlier
            minds(1, 1) = 34121
            minds(0, 0) = 0
            """);
        Script.edge("Promise 31", "BEYOND.", """
            minds(2, 0) = BEYOND
            minds(-1, 0) = BEYOND
            minds(MAX, 0) = BEYOND
            minds(0, 2) = BEYOND
            minds(0, -1) = BEYOND
            minds(0, MIN) = BEYOND
            minds(1, 1) = 1010
            """);
        Script.edge("Promise 31", "NONE: there is none (1).", """
            tape(o>t)
            text(6) = 1
            minds(0, 1) = NONE
            minds(0, 0) = 0
            told(2) = 1
            """);
    }

    private static void generations() {
        Script.edge("Terms 3", "HEIRS: each generation thinks otherwise with c of d (d 1 to 6, c 0 to d): how likely the n-th (0 to 8) thinks as the first did", """
            heirs(0, 16, 0) = 1
            heirs(0, 16, 1) = 1
            heirs(1, 16, 0) = 5
            heirs(1, 16, 1) = 6
            # 5/6 * 5/6 and 1/6 * 1/6
            heirs(2, 16, 0) = 13
            heirs(2, 16, 1) = 18
            heirs(8, 16, 0) = 6817
            heirs(8, 16, 1) = 13122
            heirs(9, 16, 0) = BEYOND
            heirs(-1, 16, 0) = BEYOND
            # none ever thinks otherwise
            heirs(8, 1, 0) = 1
            heirs(8, 6, 0) = 1
            heirs(8, 6, 1) = 1
            heirs(8, 7, 0) = BEYOND
            # all always do
            heirs(7, 66, 0) = 0
            heirs(7, 66, 1) = 1
            heirs(8, 66, 0) = 1
            heirs(8, 66, 1) = 1
            heirs(1, 11, 0) = 0
            heirs(8, 76, 0) = BEYOND
            """);
        Script.edge("Terms 3", "as a fraction in lowest terms (they think so, or otherwise; who thinks otherwise may come back, with c of d as well)", """
            heirs(1, 26, 0) = 2
            heirs(1, 26, 1) = 3
            heirs(8, 36, 0) = 1
            heirs(8, 36, 1) = 2
            heirs(1, 24, 0) = 1
            heirs(1, 24, 1) = 2
            # 6 to the 7th less 4 to the 7th, by twice 6 to the 7th
            heirs(7, 56, 0) = 2059
            heirs(7, 56, 1) = 4374
            heirs(8, 56, 0) = 6817
            heirs(8, 56, 1) = 13122
            heirs(2, 45, 0) = 17
            heirs(2, 45, 1) = 25
            """);
    }

    private static void heirs() {
        Script.edge("Promise 32", "HEIRS with c of d (10 * c and d): part as odds().", "heirs(1, 14, 0) = 3\nheirs(1, 14, 1) = 4\n");
        StringBuilder lines = new StringBuilder();
        for (int cd = -12; cd <= 112; cd++) {
            int c = cd / 10;
            int d = cd % 10;
            boolean is = cd > 0 && d >= 1 && d <= 6 && c <= d;
            lines.append("heirs(0, " + cd + ", 0) = " + (is ? "1" : "BEYOND") + "\n");
        }
        Script.edge("Promise 32", "BEYOND.", lines + """
            heirs(0, MAX, 0) = BEYOND
            heirs(0, MIN, 0) = BEYOND
            heirs(-1, 12, 0) = BEYOND
            heirs(9, 12, 0) = BEYOND
            heirs(MAX, 12, 0) = BEYOND
            heirs(MIN, 12, 0) = BEYOND
            heirs(8, 12, -1) = BEYOND
            heirs(8, 12, 2) = BEYOND
            heirs(8, 12, MAX) = BEYOND
            heirs(8, 12, 1) = 2
            """);
    }

    private static void ships() {
        Script.edge("Terms 3", "GOODS go by SHIP: WAY times SPEED (2 to 9; 2 at first) years", Worlds.TWO + """
            # 2 years, 3 years, 9 years
            goods(1, 1000, 10) = 810
            rule(1, 3) = 2
            goods(1, 1000, 10) = 729
            rule(1, 9) = 3
            goods(1, 99999, 50) = 196
            rule(1, 10) = BEYOND
            rule(1, 1) = BEYOND
            rule(1, 2) = 9
            near(0, 1, 3) = 1
            goods(1, 1000, 10) = 533
            # by a third PLACE
            place() = 2
            near(0, 2, 1) = 0
            near(2, 1, 1) = 0
            goods(1, 1000, 10) = 657
            """);
        Script.edge("Terms 3", "each year takes f hundredths (0 to 99) of what they are worth then, cut.", Worlds.TWO + """
            # 99999 less 98999 is 1000, less 990 is 10
            goods(1, 99999, 99) = 10
            goods(1, 99999, 0) = 99999
            goods(1, 99999, 100) = BEYOND
            goods(1, 99999, -1) = BEYOND
            # what is taken is cut: of 1 nothing, of 2 one
            goods(1, 1, 99) = 1
            goods(1, 2, 99) = 1
            goods(1, 99, 1) = 99
            goods(1, 100, 1) = 99
            goods(1, 101, 1) = 99
            goods(1, 0, 99) = 0
            """);
        Script.edge("Terms 3", "each year takes f hundredths", """
            place() = 0
            place() = 1
            place() = 2
            place() = 3
            place() = 4
            place() = 5
            near(0, 1, 30) = 0
            near(1, 2, 30) = 0
            near(2, 3, 30) = 0
            near(3, 4, 30) = 0
            near(4, 5, 30) = 0
            rule(1, 9) = 2
            # the longest WAY: 1350 years
            goods(5, 99999, 0) = 99999
            goods(50, 99999, 1) = 99
            goods(5, 99999, 99) = 1
            """);
    }

    private static void goods() {
        Script.edge("Promise 33", "What GOODS worth v (0 to 99999) are worth as they come, by f.", Worlds.TWO + """
            goods(1, 0, 0) = 0
            goods(1, 99999, 0) = 99999
            goods(10, 100, 50) = 25
            # nothing is sent by it
            count(2) = 0
            count(8) = 1
            """);
        // By half in each year: 2 years for each year of the WAY.
        StringBuilder pairs = new StringBuilder(Worlds.SIX);
        for (int from = 0; from < 6; from++) {
            for (int to = 0; to < 6; to++) {
                pairs.append("goods(" + (10 * from + to) + ", 65536, 50) = "
                    + (from == to ? "BEYOND" : 65536 >> 2 * Math.abs(from - to)) + "\n");
            }
        }
        Script.edge("Promise 33", "What GOODS worth v (0 to 99999) are worth as they come, by f.", pairs.toString());
        Script.edge("Promise 33", "BEYOND: ft (PLACES, also one twice), v, f.", Worlds.TWO + """
            goods(0, 1, 1) = BEYOND
            goods(11, 1, 1) = BEYOND
            goods(2, 1, 1) = BEYOND
            goods(20, 1, 1) = BEYOND
            goods(101, 1, 1) = BEYOND
            goods(-1, 1, 1) = BEYOND
            goods(-10, 1, 1) = BEYOND
            goods(MAX, 1, 1) = BEYOND
            goods(MIN, 1, 1) = BEYOND
            goods(1, -1, 1) = BEYOND
            goods(1, 100000, 1) = BEYOND
            goods(1, MAX, 1) = BEYOND
            goods(1, MIN, 1) = BEYOND
            goods(1, 1, -1) = BEYOND
            goods(1, 1, 100) = BEYOND
            goods(1, 1, MAX) = BEYOND
            goods(1, 1, MIN) = BEYOND
            goods(1, 99999, 99) = 10
            """);
        Script.edge("Promise 33", "NONE: there is no WAY.", Worlds.TWO + """
            place() = 2
            goods(2, 1, 1) = NONE
            goods(20, 99999, 99) = NONE
            goods(2, 100000, 1) = BEYOND
            near(1, 2, 1) = 0
            goods(2, 1, 1) = 1
            near(0, 1, 0) = 1
            goods(1, 1, 1) = NONE
            """);
    }
}
