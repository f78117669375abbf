/** Promises 22 to 33. */
public final class WhatCanBeTest {
    private WhatCanBeTest() { }

    private static final String THREE = """
        place() = 0
        place() = 1
        place() = 2
        near(0, 1, 9) = 0
        """;

    public static void main(String[] args) {
        soonest();
        chances();
        payments();
        eachPayment();
        works();
        twoMinds();
        generations();
        ships();
        Script.end();
    }

    private static void soonest() {
        Script.run("22 soon", THREE + """
            soon(1, 1, 0) = 9
            soon(10, 9, 9) = 90
            soon(1, 2, 3) = 21
            live(5) = 5
            soon(1, 2, 3) = 26
            soon(1, 0, 0) = BEYOND
            soon(1, 10, 0) = BEYOND
            soon(1, 1, -1) = BEYOND
            soon(1, 1, 10) = BEYOND
            soon(0, 1, 0) = BEYOND
            soon(11, 1, 0) = BEYOND
            soon(3, 1, 0) = BEYOND
            soon(30, 1, 0) = BEYOND
            soon(-1, 1, 0) = BEYOND
            soon(MIN, 1, 0) = BEYOND
            soon(2, 1, 0) = NONE
            # a WAY by a third place: 9 and 30
            near(1, 2, 30) = 0
            soon(2, 9, 9) = 365
            live(34) = 39
            soon(2, 9, 9) = 399
            soon(20, 9, 9) = 399
            live(1) = 40
            soon(2, 9, 9) = NONE
            soon(2, 9, 8) = 399
            told(2) = 2
            """);
    }

    private static void chances() {
        Script.run("23 odds", """
            odds(1, 1, 0) = 1
            odds(1, 1, 1) = 1
            odds(4, 4, 0) = 1
            odds(4, 4, 1) = 1
            loss(11) = 1
            odds(1, 1, 0) = 0
            odds(1, 1, 1) = 1
            loss(99) = 11
            odds(4, 4, 0) = 0
            odds(4, 4, 1) = 1
            loss(24) = 99
            # 2 of 4 is 1 of 2
            odds(1, 1, 0) = 1
            odds(1, 1, 1) = 2
            odds(1, 2, 0) = 3
            odds(1, 2, 1) = 4
            odds(3, 2, 0) = 27
            odds(3, 2, 1) = 64
            loss(69) = 24
            odds(1, 1, 0) = 1
            odds(1, 1, 1) = 3
            odds(1, 2, 0) = 5
            odds(1, 2, 1) = 9
            odds(2, 3, 0) = 361
            odds(2, 3, 1) = 729
            loss(89) = 69
            odds(4, 4, 0) = 36920510250625
            odds(4, 4, 1) = 1853020188851841
            odds(0, 1, 0) = BEYOND
            odds(5, 1, 0) = BEYOND
            odds(1, 0, 0) = BEYOND
            odds(1, 5, 0) = BEYOND
            odds(1, 1, 2) = BEYOND
            odds(1, 1, -1) = BEYOND
            told(1) = 6
            """);
        Script.run("24 enough", """
            enough(4, 100) = 1
            enough(1, 0) = 1
            loss(12) = 1
            # 1/2, 3/4, 7/8, 15/16
            enough(1, 50) = 1
            enough(1, 51) = 2
            enough(1, 75) = 2
            enough(1, 76) = 3
            enough(1, 87) = 3
            enough(1, 88) = 4
            enough(1, 93) = 4
            enough(1, 94) = NONE
            enough(1, 100) = NONE
            # 1/16, 81/256, 2401/4096, 50625/65536
            enough(4, 6) = 1
            enough(4, 7) = 2
            enough(4, 31) = 2
            enough(4, 32) = 3
            enough(4, 58) = 3
            enough(4, 59) = 4
            enough(4, 77) = 4
            enough(4, 78) = NONE
            loss(55) = 12
            enough(2, 0) = 1
            enough(2, 1) = NONE
            enough(0, 5) = BEYOND
            enough(5, 5) = BEYOND
            enough(1, -1) = BEYOND
            enough(1, 101) = BEYOND
            """);
    }

    private static void payments() {
        Script.run("25, 26, 27", """
            rest(0) = 15
            rest(3) = 15
            rest(4) = BEYOND
            rest(-1) = BEYOND
            answer(0, 0, 0) = 0
            answer(4, 0, 0) = BEYOND
            answer(-1, 0, 0) = BEYOND
            answer(0, 2, 0) = BEYOND
            answer(0, -1, 0) = BEYOND
            answer(0, 0, 2) = BEYOND
            answer(0, 0, -1) = BEYOND
            # side 0 of PACT 2 would keep it if the other does
            pays(43, 99) = 0
            pays(43, 1) = 99
            answer(2, 0, 1) = 1
            answer(2, 0, 0) = 0
            answer(2, 1, 1) = 0
            answer(1, 0, 1) = 0
            # both leave, both keep it; side 0 keeps it alone
            rest(2) = 13
            # side 1 has more by leaving it while 0 keeps it
            pays(51, 7) = 0
            answer(2, 1, 1) = 0
            rest(2) = 5
            pays(52, 7) = 0
            # keeps it while 0 leaves it: so that (0, 0) rests no more
            rest(2) = 4
            answer(2, 1, 0) = 1
            pays(43, -99) = 1
            answer(2, 0, 1) = 0
            rest(2) = 6
            # a side's gain, never resting: 0 would do as 1 does, 1 would not
            pays(60, 1) = 0
            pays(63, 1) = 0
            pays(71, 1) = 0
            pays(72, 1) = 0
            rest(3) = 0
            answer(3, 0, 0) = 0
            answer(3, 0, 1) = 1
            answer(3, 1, 0) = 1
            answer(3, 1, 1) = 0
            pays(-1, 0) = BEYOND
            pays(80, 0) = BEYOND
            pays(4, 0) = BEYOND
            pays(9, 0) = BEYOND
            pays(14, 0) = BEYOND
            pays(100, 0) = BEYOND
            pays(MIN, 0) = BEYOND
            pays(0, 100) = BEYOND
            pays(0, -100) = BEYOND
            pays(0, 0) = 0
            told(1) = 17
            """);
    }

    private static void eachPayment() {
        StringBuilder lines = new StringBuilder();
        for (int round = 0; round < 2; round++) {
            for (int at = 0; at < 80; at++) {
                boolean is = at % 10 <= 3;
                int was = round == 0 ? 0 : at;
                lines.append("pays(" + at + ", " + at + ") = " + (is ? was : "BEYOND") + "\n");
            }
        }
        Script.run("25 each has its own", lines.toString());
    }

    private static void works() {
        Script.run("28, 29, 30", """
            blind(0, 11) = BEYOND
            work(-1, 0) = BEYOND
            work(0, -1) = BEYOND
            work(1000, 0) = BEYOND
            work(0, 1000) = BEYOND
            work(100, 300) = 0
            work(0, 1) = 1
            work(999, 999) = 2
            work(998, 999) = 3
            work(0, 0) = 4
            work(1, 999) = 5
            work(500, 999) = 6
            work(3, 4) = 7
            work(0, 0) = FULL
            work(1000, 0) = BEYOND
            count(4) = 8
            # 300 * 1 is not above 100 * 3
            blind(0, 13) = 0
            blind(0, 23) = 1
            blind(0, 3) = 0
            blind(0, 11) = 1
            blind(1, 1) = 0
            blind(1, 19) = 1
            blind(2, 99) = 0
            blind(3, 99) = 1
            blind(3, 89) = 0
            blind(7, 78) = 1
            blind(7, 68) = 0
            blind(8, 11) = BEYOND
            blind(-1, 11) = BEYOND
            blind(0, 10) = BEYOND
            blind(0, 21) = BEYOND
            blind(0, -11) = BEYOND
            blind(0, 101) = BEYOND
            edge(0, 3) = 2
            edge(0, 9) = 4
            edge(0, 1) = 1
            edge(1, 9) = 1
            edge(2, 9) = NONE
            edge(3, 9) = 9
            edge(4, 9) = NONE
            edge(5, 9) = 1
            edge(6, 2) = 2
            edge(6, 9) = 5
            edge(7, 4) = 4
            edge(7, 8) = 7
            edge(8, 1) = BEYOND
            edge(-1, 1) = BEYOND
            edge(0, 0) = BEYOND
            edge(0, 10) = BEYOND
            told(2) = 2
            """);
    }

    private static void twoMinds() {
        Script.run("31 minds", """
            minds(-1, 0) = BEYOND
            minds(2, 0) = BEYOND
            minds(0, 2) = BEYOND
            minds(0, -1) = BEYOND
            # without a TEXT each keeps its own
            minds(0, 0) = 900
            minds(1, 1) = 1010
            # the greater number is taken
            tape(o<t)
            text(6) = 1
            minds(0, 0) = 0
            minds(0, 1) = NONE
            minds(1, 0) = 900
            # the earlier one is taken: those of one YEAR cross
            tape(r>0)
            text(7) = 1
            minds(1, 0) = 180
            minds(1, 1) = 1012
            tape(a<b)
            text(7) = 1
            minds(1, 0) = 0
            # both give way
            tape(1)
            text(7) = 1
            minds(1, 0) = 900
            minds(1, 1) = 1010
            # a below b alike, only a's PLACE counts: of 15 pairs, 3 are both even, 3 both odd
            tape(a%2)
            text(7) = 1
            minds(1, 0) = 360
            minds(1, 1) = 2010
            # e 2: a's own YEAR less that of the other is -2
            tape((r=0-2)*(a=4)*(o=3)*(t=2)+(o<t))
            text(6) = 1
            # where 4 has 3 and the other 2, both give way: 4 is b beside 0 to 3, and a beside 5
            minds(0, 0) = 5
            minds(0, 1) = 4230
            tape((r=0-2)*(a=4)*(b=5)*(o=3)*(t=2)+(o<t))
            text(6) = 1
            minds(0, 0) = 1
            minds(0, 1) = 45324
            told(2) = 1
            """);
        Script.run("31 the last of all", """
            tape((a=5)*(b=4)*(o=2)*(t=3)*(r=2)=0&o<t)
            text(6) = 1
            # b (5) with 2, a (4) with 3, e 2: b alone would give way, and doesn't
            minds(0, 0) = 1
            minds(0, 1) = 45324
            """);
    }

    private static void generations() {
        Script.run("32 heirs", """
            heirs(0, 66, 0) = 1
            heirs(0, 66, 1) = 1
            heirs(8, 6, 0) = 1
            heirs(8, 6, 1) = 1
            # always otherwise: there and back
            heirs(1, 66, 0) = 0
            heirs(1, 66, 1) = 1
            heirs(2, 66, 0) = 1
            heirs(7, 11, 0) = 0
            heirs(8, 11, 0) = 1
            heirs(1, 13, 0) = 2
            heirs(1, 13, 1) = 3
            heirs(3, 13, 0) = 14
            heirs(3, 13, 1) = 27
            # 2 of 3: the share ahead goes to and fro
            heirs(1, 23, 0) = 1
            heirs(2, 23, 0) = 5
            heirs(3, 23, 0) = 13
            heirs(3, 23, 1) = 27
            heirs(5, 12, 0) = 1
            heirs(5, 12, 1) = 2
            heirs(3, 24, 1) = 2
            heirs(8, 15, 0) = 198593
            heirs(8, 15, 1) = 390625
            heirs(-1, 12, 0) = BEYOND
            heirs(9, 12, 0) = BEYOND
            heirs(1, 10, 0) = BEYOND
            heirs(1, 7, 0) = BEYOND
            heirs(1, 21, 0) = BEYOND
            heirs(1, -12, 0) = BEYOND
            heirs(1, 0, 0) = BEYOND
            heirs(1, 12, 2) = BEYOND
            heirs(1, 12, -1) = BEYOND
            told(1) = 9
            """);
    }

    private static void ships() {
        Script.run("33 goods", """
            place() = 0
            place() = 1
            place() = 2
            near(0, 1, 1) = 0
            goods(1, 1000, 10) = 810
            goods(10, 1000, 10) = 810
            goods(1, 99999, 99) = 10
            goods(1, 99999, 0) = 99999
            goods(1, 0, 50) = 0
            goods(1, 1, 99) = 1
            goods(1, 9, 50) = 3
            rule(1, 9) = 2
            goods(1, 1000, 10) = 389
            near(0, 1, 30) = 1
            goods(1, 99999, 50) = 1
            goods(1, 100, 1) = 99
            goods(1, 100000, 0) = BEYOND
            goods(1, -1, 0) = BEYOND
            goods(1, 5, 100) = BEYOND
            goods(1, 5, -1) = BEYOND
            goods(0, 5, 5) = BEYOND
            goods(3, 5, 5) = BEYOND
            goods(-1, 5, 5) = BEYOND
            goods(2, 5, 5) = NONE
            goods(2, 5, 100) = BEYOND
            told(1) = 8
            told(2) = 1
            """);
    }
}
