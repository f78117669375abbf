/** The edges of PLACES, NEAR, WAY, ROUTE, rule() and loss(): the document's part 1 up to ROUTE, promises 1 to 7. */
public final class EdgesOfPlacesTest {
    private static final String SIX = """
        place() = 0
        place() = 1
        place() = 2
        place() = 3
        place() = 4
        place() = 5
        """;

    private EdgesOfPlacesTest() { }

    public static void main(String[] args) {
        years();
        places();
        nears();
        ways();
        routes();
        newObject();
        near();
        way();
        route();
        rule();
        loss();
        Script.end();
    }

    private static void years() {
        Script.edge("Terms 1", "YEARS are 0 to 399", "place() = 0\n" + Worlds.TO_350 + """
            came(0, 0, 0) = 0
            came(0, 0, -1) = BEYOND
            came(0, 0, 399) = 0
            came(0, 0, 400) = BEYOND
            live(49) = 399
            stance(0, 0, 0) = 0
            stance(0, 0, -1) = BEYOND
            stance(0, 0, 399) = 0
            stance(0, 0, 400) = BEYOND
            """);
        Script.edge("Terms 1", "NOW is one (0 at first)", "count(0) = 0\n" + Worlds.TO_350 + """
            live(50) = STATE
            live(48) = 398
            live(2) = STATE
            live(1) = 399
            live(1) = STATE
            count(0) = 399
            """);
    }

    private static void places() {
        Script.edge("Terms 1", "PLACES 0, 1, .. (at most 6).", """
            count(1) = 0
            way(0, 0) = BEYOND
            place() = 0
            way(0, 0) = 0
            way(1, 1) = BEYOND
            place() = 1
            place() = 2
            place() = 3
            place() = 4
            way(4, 4) = 0
            way(5, 5) = BEYOND
            place() = 5
            way(5, 5) = 0
            place() = FULL
            way(6, 6) = BEYOND
            count(1) = 6
            """);
        Script.edge("Promise 2", "A PLACE: its number.", "place() = 0\nplace() = 1\ncount(1) = 2\n");
        Script.edge("Promise 2", "FULL.", SIX + """
            image() = 1
            3x place() = FULL
            told(4) = 3
            restore() = 0
            place() = FULL
            count(1) = 6
            """);
    }

    private static void nears() {
        Script.edge("Terms 1", "NEAR: between two of them so many years (1 to 30; none at first).", """
            place() = 0
            place() = 1
            way(0, 1) = NONE
            near(0, 1, 31) = BEYOND
            near(0, 1, -1) = BEYOND
            near(0, 1, 1) = 0
            way(0, 1) = 1
            way(1, 0) = 1
            near(1, 0, 30) = 1
            way(0, 1) = 30
            way(1, 0) = 30
            near(0, 1, 31) = BEYOND
            way(0, 1) = 30
            """);
    }

    private static void ways() {
        Script.edge("Terms 1", "WAY: the least sum of NEAR ones, one behind the other", SIX + """
            near(0, 1, 30) = 0
            near(1, 2, 30) = 0
            near(2, 3, 30) = 0
            near(3, 4, 30) = 0
            near(4, 5, 30) = 0
            # the greatest of all
            way(0, 5) = 150
            way(5, 0) = 150
            # a longer way beside changes nothing, one year less does
            near(0, 2, 30) = 0
            way(0, 5) = 120
            near(2, 5, 30) = 0
            way(0, 5) = 60
            near(0, 5, 30) = 0
            way(0, 5) = 30
            near(0, 2, 1) = 30
            near(2, 5, 29) = 30
            way(0, 5) = 30
            near(2, 5, 28) = 29
            way(0, 5) = 29
            way(1, 5) = 58
            """);
        for (int by = 0; by < 6; by++) {
            int one = by == 0 ? 1 : 0;
            int other = by == 5 ? 4 : 5;
            Script.edge("Terms 1", "the least sum of NEAR ones, one behind the other", SIX
                + "near(" + one + ", " + by + ", 2) = 0\nnear(" + other + ", " + by + ", 3) = 0\n"
                + "way(" + one + ", " + other + ") = 5\nway(" + other + ", " + one + ") = 5\n"
                + "route(" + one + ", " + other + ", 1) = " + by + "\n");
        }
        Script.edge("Terms 1", "0 to itself", """
            place() = 0
            way(0, 0) = 0
            place() = 1
            near(0, 1, 1) = 0
            way(0, 0) = 0
            way(1, 1) = 0
            """);
    }

    private static void routes() {
        Script.edge("Terms 1", "ROUTE: the PLACES of a WAY, both ends, too", SIX + """
            near(0, 5, 30) = 0
            route(0, 5, -1) = 2
            route(0, 5, 0) = 0
            route(0, 5, 1) = 5
            route(5, 0, 0) = 5
            route(5, 0, 1) = 0
            # one PLACE that is both ends
            route(3, 3, -1) = 1
            route(3, 3, 0) = 3
            """);
        Script.edge("Terms 1", "of several ROUTES of the least sum the one with the fewest PLACES", SIX + """
            # 0-1-2-3-4-5, by all six, is 5 years, as is 0-5
            near(0, 1, 1) = 0
            near(1, 2, 1) = 0
            near(2, 3, 1) = 0
            near(3, 4, 1) = 0
            near(4, 5, 1) = 0
            route(0, 5, -1) = 6
            route(0, 5, 5) = 5
            near(0, 5, 5) = 0
            route(0, 5, -1) = 2
            # a year more, and the long row is the only one
            near(0, 5, 6) = 5
            route(0, 5, -1) = 6
            # 0-4-5 is 5 years, too, though its second PLACE is greater
            near(0, 4, 4) = 0
            route(0, 5, -1) = 3
            route(0, 5, 1) = 4
            """);
        Script.edge("Terms 1", "then with the least second PLACE", SIX + """
            # 0-4-5 and 0-3-5, told from the greater one on
            near(0, 4, 2) = 0
            near(4, 5, 2) = 0
            near(0, 3, 2) = 0
            near(3, 5, 2) = 0
            route(0, 5, 1) = 3
            route(5, 0, 1) = 3
            near(0, 3, 3) = 2
            route(0, 5, 1) = 4
            near(3, 5, 1) = 2
            route(0, 5, 1) = 3
            """);
        Script.edge("Terms 1", "then the least third one, and so on", SIX + """
            # 0-1-4-5, 0-1-3-5, 0-2-3-5: the second PLACE is asked before the third
            near(0, 2, 1) = 0
            near(2, 3, 1) = 0
            near(3, 5, 1) = 0
            near(0, 1, 1) = 0
            near(1, 4, 1) = 0
            near(4, 5, 1) = 0
            route(0, 5, 1) = 1
            route(0, 5, 2) = 4
            near(1, 3, 1) = 0
            route(0, 5, 1) = 1
            route(0, 5, 2) = 3
            # from the other end 5-3-1-0, 5-3-2-0 and 5-4-1-0
            route(5, 0, 1) = 3
            route(5, 0, 2) = 1
            """);
        Script.edge("Terms 1", "and so on", SIX + """
            # 5-1-2-0-4 and 5-1-2-3-4: the fourth; then 0-.. and 3-.. from 4 on
            near(5, 1, 1) = 0
            near(1, 2, 1) = 0
            near(2, 3, 1) = 0
            near(3, 4, 1) = 0
            route(5, 4, 3) = 3
            near(2, 0, 1) = 0
            near(0, 4, 1) = 0
            route(5, 4, -1) = 5
            route(5, 4, 2) = 2
            route(5, 4, 3) = 0
            route(5, 4, 4) = 4
            route(4, 5, 1) = 0
            """);
    }

    private static void newObject() {
        Script.edge("Promise 1", "All as at first; no PLACES, WORDS, WORKS.", """
            count(0) = 0
            count(1) = 0
            count(2) = 0
            count(3) = 0
            count(4) = 0
            count(5) = 0
            count(6) = 0
            count(7) = 0
            count(8) = 1
            rule(0, 20) = 20
            rule(1, 2) = 2
            loss(1) = 1
            told(1) = 0
            told(2) = 0
            told(3) = 0
            told(4) = 0
            told(5) = 0
            way(0, 0) = BEYOND
            ofWord(0, 0) = BEYOND
            edge(0, 1) = BEYOND
            restore() = NONE
            trace(0) = NONE
            words(0) = NONE
            words(1) = NONE
            words(2) = NONE
            words(3) = NONE
            minds(0, 0) = 900
            minds(1, 0) = 900
            rest(0) = 15
            rest(1) = 15
            rest(2) = 15
            rest(3) = 15
            text(0) = -10
            image() = 1
            """);
    }

    private static void near() {
        Script.edge("Promise 3", "NEAR of two PLACES becomes so many years (0: none): what it was.", """
            place() = 0
            place() = 1
            near(0, 1, 0) = 0
            near(0, 1, 30) = 0
            near(0, 1, 30) = 30
            near(1, 0, 1) = 30
            near(0, 1, 0) = 1
            way(0, 1) = NONE
            near(1, 0, 0) = 0
            # what it was, not the WAY that there is
            place() = 2
            near(0, 2, 1) = 0
            near(2, 1, 1) = 0
            near(0, 1, 5) = 0
            near(0, 1, 6) = 5
            """);
        Script.edge("Promise 3", "BEYOND: also of one and the same.", """
            near(0, 0, 1) = BEYOND
            place() = 0
            near(0, 0, 1) = BEYOND
            near(0, 0, 0) = BEYOND
            near(0, 1, 1) = BEYOND
            place() = 1
            near(1, 1, 30) = BEYOND
            near(0, 2, 1) = BEYOND
            near(2, 0, 1) = BEYOND
            near(-1, 0, 1) = BEYOND
            near(0, -1, 1) = BEYOND
            near(MIN, 0, 1) = BEYOND
            near(0, MAX, 1) = BEYOND
            near(0, 1, -1) = BEYOND
            near(0, 1, 31) = BEYOND
            near(0, 1, MAX) = BEYOND
            near(0, 1, MIN) = BEYOND
            near(0, 1, 0) = 0
            """);
    }

    private static void way() {
        Script.edge("Promise 4", "WAY.", Worlds.TWO + "way(0, 1) = 1\nway(1, 0) = 1\nway(0, 0) = 0\nway(1, 1) = 0\n");
        Script.edge("Promise 4", "BEYOND.", Worlds.TWO + """
            way(2, 0) = BEYOND
            way(0, 2) = BEYOND
            way(2, 2) = BEYOND
            way(-1, 0) = BEYOND
            way(0, -1) = BEYOND
            way(-1, -1) = BEYOND
            way(MIN, 0) = BEYOND
            way(0, MAX) = BEYOND
            """);
        Script.edge("Promise 4", "NONE: there is none.", Worlds.TWO + """
            place() = 2
            way(0, 2) = NONE
            way(2, 1) = NONE
            way(2, 2) = 0
            near(1, 2, 30) = 0
            way(0, 2) = 31
            near(0, 1, 0) = 1
            way(0, 2) = NONE
            way(1, 2) = 30
            near(1, 2, 0) = 30
            way(1, 2) = NONE
            """);
    }

    private static void route() {
        Script.edge("Promise 5", "ROUTE: i -1 how many PLACES, else the i-th.", Worlds.TWO + """
            place() = 2
            near(1, 2, 1) = 0
            route(0, 2, -1) = 3
            route(0, 2, 0) = 0
            route(0, 2, 1) = 1
            route(0, 2, 2) = 2
            route(1, 1, -1) = 1
            route(1, 1, 0) = 1
            """);
        Script.edge("Promise 5", "BEYOND: also i below -1.", Worlds.TWO + """
            route(0, 1, -2) = BEYOND
            route(0, 1, MIN) = BEYOND
            route(2, 0, 0) = BEYOND
            route(0, 2, 0) = BEYOND
            route(-1, 0, 0) = BEYOND
            route(0, -1, -1) = BEYOND
            route(MAX, 0, 0) = BEYOND
            # BEYOND is asked first
            place() = 2
            route(0, 2, -2) = BEYOND
            """);
        Script.edge("Promise 5", "NONE: there is no WAY; there are not so many.", Worlds.TWO + """
            route(0, 1, 1) = 1
            route(0, 1, 2) = NONE
            route(0, 1, MAX) = NONE
            route(0, 0, 0) = 0
            route(0, 0, 1) = NONE
            place() = 2
            route(0, 2, -1) = NONE
            route(0, 2, 0) = NONE
            near(0, 1, 0) = 1
            route(0, 1, -1) = NONE
            route(0, 1, 0) = NONE
            """);
    }

    private static void rule() {
        Script.edge("Promise 6", "TERM (what 0; 0 to 99)", """
            rule(0, 0) = 20
            rule(0, -1) = BEYOND
            rule(0, 99) = 0
            rule(0, 100) = BEYOND
            rule(0, MIN) = BEYOND
            rule(0, MAX) = BEYOND
            rule(0, 50) = 99
            """);
        Script.edge("Promise 6", "SPEED (1; 2 to 9) becomes v: what it was.", """
            rule(1, 9) = 2
            rule(1, 10) = BEYOND
            rule(1, 2) = 9
            rule(1, 1) = BEYOND
            rule(1, 0) = BEYOND
            rule(1, -2) = BEYOND
            rule(1, MAX) = BEYOND
            rule(1, 3) = 2
            # each is one of its own
            rule(0, 5) = 20
            rule(1, 3) = 3
            """);
        Script.edge("Promise 6", "BEYOND.", """
            rule(2, 5) = BEYOND
            rule(-1, 5) = BEYOND
            rule(MAX, 5) = BEYOND
            rule(MIN, 5) = BEYOND
            rule(0, 20) = 20
            rule(1, 2) = 2
            """);
    }

    private static void loss() {
        StringBuilder lines = new StringBuilder();
        int was = 1;
        for (int pq = -12; pq <= 120; pq++) {
            boolean is = pq > 0 && pq % 10 != 0 && pq / 10 <= pq % 10;
            lines.append("loss(" + pq + ") = " + (is ? was : "BEYOND") + "\n");
            was = is ? pq : was;
        }
        Script.edge("Promise 7", "LOSS becomes p of q (10 * p and q): what it was, likewise.", lines.toString());
        Script.edge("Terms 2", "LOSS: p of q (q 1 to 9, p 0 to q; 0 of 1 at first).", """
            loss(0) = BEYOND
            loss(1) = 1
            loss(9) = 1
            loss(10) = BEYOND
            loss(11) = 9
            loss(21) = BEYOND
            loss(12) = 11
            loss(22) = 12
            loss(32) = BEYOND
            loss(99) = 22
            loss(89) = 99
            loss(98) = BEYOND
            loss(109) = BEYOND
            loss(1) = 89
            """);
        Script.edge("Promise 7", "BEYOND.", """
            loss(-1) = BEYOND
            loss(-9) = BEYOND
            loss(-11) = BEYOND
            loss(20) = BEYOND
            loss(90) = BEYOND
            loss(MAX) = BEYOND
            loss(MIN) = BEYOND
            # its last digit is 1
            loss(-2147483641) = BEYOND
            loss(1) = 1
            """);
    }
}
