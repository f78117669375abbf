/** The document's lines on ERRORS: which they are, in what order they are asked, that they change nothing. */
public final class EdgesOfErrorsTest {
    private EdgesOfErrorsTest() { }

    public static void main(String[] args) {
        numbers();
        order();
        orderWhenFull();
        nothingIsChanged();
        nothingIsChangedWhenFull();
        nothingIsChangedOnANewObject();
        quotients();
        Script.end();
    }

    private static void numbers() {
        Script.edge("Terms 0", "ERRORS are answers below -1000000: LOW is -1000000; LOW - 1 BEYOND, LOW - 2 NONE, LOW - 3 STATE, LOW - 4 FULL, LOW - 5 KIND", """
            way(0, 0) = -1000001!
            restore() = -1000002!
            sheet(0, 8, -1) = -1000003!
            place() = 0
            place() = 1
            place() = 2
            place() = 3
            place() = 4
            place() = 5
            place() = -1000004!
            near(0, 1, 1) = 0
            word(0, 1, 0) = 0
            as(0, 1) = -1000005!
            """);
        Script.edge("Terms 0", "(in longs, too)", """
            odds(0, 1, 0) = -1000001!
            heirs(9, 12, 0) = -1000001!
            told(1) = 2
            """);
    }

    private static void order() {
        Script.edge("Terms 0", "Each act tells its ERRORS in the order in which they are asked", """
            place() = 0
            place() = 1
            near(0, 1, 9) = 0
            place() = 2
            # there is no WAY to 2, but what is BEYOND is asked first
            route(0, 2, -2) = BEYOND
            route(0, 2, -1) = NONE
            word(7, 2, 0) = BEYOND
            word(0, 2, 4) = BEYOND
            word(0, 2, 3) = NONE
            made(0, 2, 4) = BEYOND
            made(0, 2, 3) = NONE
            soon(2, 0, 0) = BEYOND
            soon(2, 1, 10) = BEYOND
            soon(2, 1, 9) = NONE
            goods(2, -1, 0) = BEYOND
            goods(2, 0, 100) = BEYOND
            goods(2, 0, 99) = NONE
            word(0, 1, 0) = 0
            as(0, 7) = BEYOND
            as(1, 6) = BEYOND
            as(0, 6) = KIND
            loss(11) = 1
            enough(5, 1) = BEYOND
            enough(1, 101) = BEYOND
            enough(1, 1) = NONE
            work(1, 0) = 0
            edge(0, 10) = BEYOND
            edge(1, 9) = BEYOND
            edge(0, 9) = NONE
            tape(o<t)
            text(6) = 1
            minds(-1, 1) = BEYOND
            minds(0, 2) = BEYOND
            minds(0, 1) = NONE
            sheet(4, 8, -1) = BEYOND
            sheet(0, 9, -1) = BEYOND
            sheet(0, 8, -1) = STATE
            put(4, -1, 0) = BEYOND
            put(0, -1, 0) = NONE
            move(0, -1, 4, 0, 0) = BEYOND
            move(4, -1, 0, 0, 0) = BEYOND
            move(0, -1, 1, 0, 0) = NONE
            sheet(0, 8, 1) = 1
            move(0, -1, 1, 0, 0) = NONE
            move(1, -1, 0, 0, 0) = NONE
            sheet(1, 16, 1) = 1
            move(0, -1, 1, 0, 0) = KIND
            sheet(1, 8, 1) = 1
            move(0, -1, 1, 0, 0) = BEYOND
            """);
    }

    private static void orderWhenFull() {
        Script.edge("Terms 0", "Each act tells its ERRORS in the order in which they are asked", Worlds.FULL + """
            word(7, 1, 0) = BEYOND
            word(0, 11, 0) = BEYOND
            word(0, 1, 4) = BEYOND
            word(0, 5, 0) = NONE
            word(0, 1, 0) = FULL
            feed(0, 9) = BEYOND
            feed(0, 0) = BEYOND
            feed(0, 1) = FULL
            work(1000, 0) = BEYOND
            work(0, -1) = BEYOND
            work(0, 0) = FULL
            live(0) = BEYOND
            live(51) = BEYOND
            live(1) = STATE
            """);
    }

    private static void nothingIsChanged() {
        String[] refused = {
            "near(0, 0, 5) = BEYOND", "near(0, 4, 5) = BEYOND", "near(4, 0, 5) = BEYOND", "near(-1, 0, 5) = BEYOND",
            "near(0, 1, 31) = BEYOND", "near(0, 1, -1) = BEYOND", "way(0, 4) = BEYOND", "way(0, 3) = NONE",
            "route(0, 4, 0) = BEYOND", "route(0, 1, -2) = BEYOND", "route(0, 3, 0) = NONE", "route(0, 1, 2) = NONE",
            "rule(0, 100) = BEYOND", "rule(0, -1) = BEYOND", "rule(1, 1) = BEYOND", "rule(1, 10) = BEYOND",
            "rule(2, 5) = BEYOND", "rule(-1, 5) = BEYOND", "loss(10) = BEYOND", "loss(21) = BEYOND", "loss(-1) = BEYOND",
            "word(7, 1, 0) = BEYOND", "word(-1, 1, 0) = BEYOND", "word(1, 11, 0) = BEYOND", "word(1, 4, 0) = BEYOND",
            "word(1, 40, 0) = BEYOND", "word(1, 1, 4) = BEYOND", "word(1, 1, -1) = BEYOND", "word(1, 3, 0) = NONE",
            "ofWord(5, 0) = BEYOND", "ofWord(0, 8) = BEYOND", "lose(5) = BEYOND", "lose(-1) = BEYOND", "lose(4) = STATE",
            "lose(0) = STATE", "as(5, 0) = BEYOND", "as(0, 7) = BEYOND", "as(0, 2) = KIND", "words(4) = BEYOND",
            "words(3) = NONE", "came(4, 0, 0) = BEYOND", "came(0, 0, 400) = BEYOND", "stance(0, 0, 3) = BEYOND",
            "made(0, 0, 0) = BEYOND", "made(0, 1, 3) = NONE", "knows(0, 4, 0) = BEYOND", "feed(65, 0) = BEYOND",
            "feed(65, 9) = BEYOND", "text(8) = BEYOND", "text(-1) = BEYOND", "law(8, 0, 0) = BEYOND",
            "aim(4, 0) = BEYOND", "aim(0, 0) = BEYOND", "aim(0, 40) = BEYOND", "aim(0, 14) = BEYOND", "aim(0, -2) = BEYOND",
            "live(0) = BEYOND", "live(51) = BEYOND",
        };
        Script.edge("Terms 0", "one that answers an ERROR changes nothing but what told() tells",
            Worlds.RICH + String.join("\n", refused));
        String[] later = {
            "soon(0, 1, 0) = BEYOND", "soon(3, 1, 0) = NONE", "odds(5, 1, 0) = BEYOND",
            "enough(1, 101) = BEYOND", "enough(4, 100) = NONE", "pays(4, 1) = BEYOND", "pays(80, 1) = BEYOND",
            "pays(-1, 1) = BEYOND", "pays(0, 100) = BEYOND", "pays(0, -100) = BEYOND", "rest(4) = BEYOND",
            "answer(4, 0, 0) = BEYOND", "work(1000, 1) = BEYOND", "work(1, 1000) = BEYOND", "work(-1, 1) = BEYOND",
            "work(1, -1) = BEYOND", "blind(2, 11) = BEYOND", "blind(0, 21) = BEYOND", "edge(2, 1) = BEYOND",
            "edge(0, 10) = BEYOND", "minds(2, 0) = BEYOND", "minds(0, 1) = NONE", "heirs(9, 12, 0) = BEYOND",
            "goods(0, 1, 1) = BEYOND", "goods(3, 1, 1) = NONE", "voice(5, 0, 0) = BEYOND", "voice(-1, 0, 0) = BEYOND",
            "voice(0, 4, 0) = BEYOND", "voice(0, -1, 0) = BEYOND", "trace(-1) = NONE", "trace(6) = NONE",
            "sheet(4, 8, 1) = BEYOND", "sheet(-1, 8, 1) = BEYOND", "sheet(0, 9, 1) = BEYOND", "sheet(0, 8, 41) = BEYOND",
            "sheet(0, 8, -1) = STATE", "put(4, 0, 1) = BEYOND", "put(3, 0, 1) = NONE", "put(0, 7, 1) = BEYOND",
            "put(0, -1, 1) = BEYOND", "move(0, 0, 4, 0, 1) = BEYOND", "move(0, 0, 3, 0, 1) = NONE",
            "move(3, 0, 0, 0, 1) = NONE", "move(0, 0, 1, 0, 1) = KIND", "move(2, 0, 0, 5, 3) = BEYOND",
            "move(2, 1, 0, 0, 3) = BEYOND", "move(2, -1, 0, 0, 2) = BEYOND", "move(2, 0, 0, -1, 2) = BEYOND",
            "move(2, 0, 0, 0, -1) = BEYOND", "check(4, 0) = BEYOND", "tell(0) = 1", "check(0, 4) = BEYOND", "count(9) = BEYOND",
            "told(0) = BEYOND", "told(6) = BEYOND",
        };
        Script.edge("Terms 0", "one that answers an ERROR changes nothing but what told() tells",
            Worlds.RICH + String.join("\n", later));
    }

    private static void nothingIsChangedWhenFull() {
        Script.edge("Terms 0", "one that answers an ERROR changes nothing but what told() tells", Worlds.FULL + """
            place() = FULL
            word(1, 10, 0) = FULL
            word(1, 15, 0) = NONE
            word(1, 10, 4) = BEYOND
            lose(79) = STATE
            lose(80) = BEYOND
            feed(65, 1) = FULL
            feed(65, 8) = FULL
            feed(65, 9) = BEYOND
            live(1) = STATE
            live(50) = STATE
            soon(1, 1, 0) = NONE
            work(1, 1) = FULL
            work(1000, 1) = BEYOND
            tell(7) = FULL
            sheet(0, 32, 41) = BEYOND
            put(0, 40, 1) = BEYOND
            restore() = NONE
            stance(0, 0, 400) = BEYOND
            # those that need no room
            words(0) = 0
            image() = 1
            """);
    }

    private static void nothingIsChangedOnANewObject() {
        Script.edge("Terms 0", "one that answers an ERROR changes nothing but what told() tells", """
            near(0, 1, 1) = BEYOND
            way(0, 0) = BEYOND
            route(0, 0, 0) = BEYOND
            word(1, 1, 0) = BEYOND
            ofWord(0, 0) = BEYOND
            lose(0) = BEYOND
            as(0, 0) = BEYOND
            words(0) = NONE
            came(0, 0, 0) = BEYOND
            stance(0, 0, 0) = BEYOND
            made(0, 1, 0) = BEYOND
            knows(0, 0, 0) = BEYOND
            aim(0, -1) = BEYOND
            soon(1, 1, 0) = BEYOND
            blind(0, 11) = BEYOND
            edge(0, 1) = BEYOND
            goods(1, 1, 1) = BEYOND
            voice(0, 0, 0) = BEYOND
            trace(0) = NONE
            put(0, 0, 0) = NONE
            move(0, 0, 0, 0, 0) = NONE
            restore() = NONE
            tell(5) = 1
            check(0, 0) = BEYOND
            count(6) = 0
            told(1) = 18
            told(2) = 5
            """);
    }

    private static void quotients() {
        Script.edge("Terms 0", "Quotients are cut.", Worlds.TWO + """
            tape(s/2)
            text(0) = 1
            law(0, 7, 0) = 3
            law(0, -7, 0) = -3
            law(0, 1, 0) = 0
            law(0, -1, 0) = 0
            # 9 less 4, 5 less 2: what a year takes is cut
            goods(1, 9, 50) = 3
            """);
    }
}
