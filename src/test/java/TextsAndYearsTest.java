/** Promises 17 to 21. */
public final class TextsAndYearsTest {
    private TextsAndYearsTest() { }

    public static void main(String[] args) {
        feeding();
        reading();
        faults();
        reckoning();
        aims();
        living();
        orders();
        Script.end();
    }

    private static void feeding() {
        Script.run("17 feed", """
            feed(0, 0) = BEYOND
            feed(0, 9) = BEYOND
            feed(0, -1) = BEYOND
            feed(0, MIN) = BEYOND
            feed(49, 1) = 1
            feed(-1, 8) = 9
            feed(0, 8) = 17
            feed(0, 8) = 25
            feed(0, 8) = 33
            feed(0, 8) = 41
            feed(0, 8) = 49
            feed(0, 2) = FULL
            feed(0, 9) = BEYOND
            count(5) = 49
            feed(0, 1) = 50
            feed(0, 1) = FULL
            count(5) = 50
            # the byte 49 is '1', 255 isn't of any TEXT
            text(0) = -11
            count(5) = 0
            # the lowest byte first: 12, and the bytes above the n lowest don't come
            feed(3355185, 2) = 2
            text(0) = 1
            law(0, 0, 0) = 12
            # the highest byte of eight: 1+1+1+19
            feed(4121122624198748977, 8) = 8
            text(0) = 1
            law(0, 0, 0) = 22
            """);
    }

    private static void reading() {
        Script.run("18 text", """
            tape(1)
            text(8) = BEYOND
            text(-1) = BEYOND
            count(5) = 1
            text(7) = 1
            count(5) = 0
            law(7, 0, 0) = 1
            # in place of one ahead
            tape(2)
            text(7) = 1
            law(7, 0, 0) = 2
            # a FAULT: the one ahead stays, THE TAPE is empty
            tape(3+)
            text(7) = -12
            law(7, 0, 0) = 2
            count(5) = 0
            text(7) = -10
            law(7, 0, 0) = 2
            law(6, 0, 0) = 0
            # NAMES are those of the USE; its PLACE need not be there
            tape(s+c+k+y)
            text(5) = 1
            law(5, 3, 4) = 7
            tape(o)
            text(5) = -10
            tape(o+t+r+a+b)
            text(6) = 1
            law(6, 30, 4) = 34
            tape(s)
            text(6) = -10
            tape(y)
            text(7) = -10
            told(1) = 2
            told(2) = 0
            """);
    }

    private static void faults() {
        String[][] cases = {
            {"", "0"}, {"1", "-"}, {"1234", "-"}, {"12345", "4"}, {"0009", "-"}, {"1 ", "1"}, {" 1", "0"}, {"s", "-"},
            {"ss", "1"}, {"s1", "1"}, {"1s", "1"}, {"x", "0"}, {"S", "0"}, {"s<c", "-"}, {"s<c<k", "3"}, {"s<c=k", "3"},
            {"s<c&c<k", "-"}, {"s<c|c>k&y=1", "-"}, {"s<c+1<k", "5"}, {"(s<c)<k", "-"}, {"s<(c<k)", "-"}, {"s<(c<k)>1", "7"},
            {"-1", "0"}, {"1-", "2"}, {"1--1", "2"}, {"1+*2", "2"}, {"1|", "2"}, {"|1", "0"}, {"1&&1", "2"}, {"1==1", "2"},
            {"!", "1"}, {"!1", "-"}, {"!!1", "-"}, {"!!!!!1", "-"}, {"!!!!!!1", "5"}, {"1!1", "1"}, {"!+1", "1"},
            {"(((((1)))))", "-"}, {"((((((1))))))", "5"}, {"!(!(!1))", "-"}, {"!(!(!!1))", "5"}, {"!(!(!(1)))", "5"},
            {"!!!!!1+!!!!!1", "-"}, {"!!!!!(1)", "5"}, {"((((!1+!(1))))", "8"}, {"((((!1+!1))))", "-"}, {"((((!1+!1)))", "12"},
            {"(1", "2"}, {"(1))", "3"}, {")", "0"}, {"()", "1"}, {"(1)(", "3"}, {"(1)1", "3"}, {"1(", "1"}, {"(12345)", "5"},
            {"1+2*3%4/5-6", "-"}, {"1;", "1"}, {"1,", "1"}, {"s!=c", "1"}, {"s<=c", "2"}, {"(s<c", "4"}, {"(s<c<k)", "4"},
            {"s<c)", "3"}, {"(s)<c<k", "5"}, {"!s<c", "-"}, {"!s<c<k", "4"}, {"(s<c)&(s<c)", "-"}, {"1+1+1+1+1+1+1+1+1+1+1+1+1+1+1+1+1+1+1+1+1+1+1+1+", "48"},
        };
        StringBuilder lines = new StringBuilder();
        for (String[] c : cases) {
            String answer = c[1].equals("-") ? "1" : Integer.toString(-10 - Integer.parseInt(c[1]));
            lines.append("tape(").append(c[0]).append(")\ntext(0) = ").append(answer).append('\n');
        }
        Script.run("18 FAULT", lines.toString());
    }

    private static void reckoning() {
        // What is after the last : is what the text before it gives with s 7 and c -3.
        String[] cases = {
            "s:7", "c:-3", "k:0", "y:0", "9999:9999", "0012:12", "s+c*2:1", "(s+c)*2:8", "s-c-1:9", "100/7/2:7", "100/(7/2):33",
            "c/2:-1", "c%2:-1", "s%c:1", "s/c:-2", "s/0:0", "s%0:0", "s/k:0", "2*3%4:2", "20%7*2:12", "s<c:0", "c<s:1", "s<s:0", "s>c:1",
            "s>s:0", "s=7:1", "s=8:0", "s|c:1", "k|y:0", "k|c:1", "c|k:1", "s&c:1", "s&k:0", "k&s:0", "1|0&0:1", "(1|0)&0:0",
            "1&2=2:1", "!s:0", "!k:1", "!!s:1", "!k+1:2", "!(k+1):0", "!s=0:1", "2+!k*3:5", "s=7&c<0|k:1", "s+1<c+12:1", "s+1<c+11:0",
            "s=7+c:0", "1-2-3:-4", "1-(2-3):2", "8/2*3:12", "5|9:1", "5&9:1", "3>2=1:F",
            "9999*9999*9999:-1027349969", "9999*9999*25:-1795467271", "s*c*c:63", "0-s%4:-3", "(0-s)%4:-3", "(0-s)/4:-1",
        };
        StringBuilder lines = new StringBuilder();
        for (String c : cases) {
            int end = c.lastIndexOf(':');
            boolean fault = c.endsWith("F");
            lines.append("tape(").append(c, 0, end).append(")\ntext(3) = ").append(fault ? "-13" : "1").append('\n');
            if (!fault) {
                lines.append("law(3, 7, -3) = ").append(c.substring(end + 1)).append('\n');
            }
        }
        Script.run("19 law", lines + """
            tape(s/c)
            text(0) = 1
            law(0, MIN, -1) = MIN
            tape(s%c)
            text(0) = 1
            law(0, MIN, -1) = 0
            tape(s*c)
            text(0) = 1
            law(0, 65536, 65536) = 0
            # an answer like an ERROR is none
            tape(s)
            text(0) = 1
            law(0, -1000001, 0) = -1000001
            told(1) = 0
            law(8, 0, 0) = BEYOND
            law(-1, 0, 0) = BEYOND
            told(1) = 2
            law(1, 5, 5) = 0
            law(6, 5, 5) = 0
            """);
    }

    private static void aims() {
        Script.run("20 aim", """
            aim(0, -1) = BEYOND
            place() = 0
            aim(0, 10) = BEYOND
            aim(0, -1) = 1
            place() = 1
            aim(0, 10) = 1
            aim(0, 13) = 1
            aim(0, 14) = BEYOND
            aim(0, 19) = BEYOND
            aim(0, 0) = BEYOND
            aim(0, 20) = BEYOND
            aim(0, -2) = BEYOND
            aim(0, MIN) = BEYOND
            aim(0, MAX) = BEYOND
            aim(1, 3) = 1
            aim(1, 10) = BEYOND
            aim(2, 0) = BEYOND
            aim(-1, 0) = BEYOND
            near(0, 1, 1) = 0
            tape(4)
            text(0) = 1
            live(1) = 1
            ofWord(0, 0) = 4
            ofWord(0, 1) = 0
            ofWord(0, 2) = 1
            ofWord(0, 3) = 3
            aim(0, -1) = 1
            live(5) = 6
            count(2) = 1
            """);
    }

    private static void living() {
        Script.run("21 live", """
            live(0) = BEYOND
            live(51) = BEYOND
            live(-1) = BEYOND
            live(50) = 50
            live(1) = 51
            live(50) = 101
            live(50) = 151
            live(50) = 201
            live(50) = 251
            live(50) = 301
            live(50) = 351
            live(49) = STATE
            live(51) = BEYOND
            live(48) = 399
            live(1) = STATE
            count(0) = 399
            told(3) = 2
            """);
        Script.run("21 who has no WAY, no AIM, no KIND", """
            place() = 0
            place() = 1
            place() = 2
            tape(1)
            text(0) = 1
            tape(7)
            text(1) = 1
            tape(0-1)
            text(2) = 1
            live(1) = 1
            aim(0, 10) = 1
            aim(1, 0) = 1
            aim(2, 0) = 1
            live(2) = 3
            count(2) = 0
            count(8) = 1
            near(0, 1, 2) = 0
            near(1, 2, 2) = 0
            live(1) = 4
            count(2) = 1
            # KIND 0 is not sent by an ORDER
            tape(0)
            text(0) = 1
            live(1) = 5
            count(2) = 1
            tape(6)
            text(0) = 1
            live(1) = 6
            count(2) = 2
            ofWord(1, 5) = 9
            """);
    }

    private static void orders() {
        Script.run("21 by numbers, with draws", """
            place() = 0
            place() = 1
            near(0, 1, 1) = 0
            tape(1)
            text(0) = 1
            tape(3)
            text(1) = 1
            aim(0, 10) = 1
            aim(1, 2) = 1
            loss(12) = 1
            live(2) = 2
            count(2) = 4
            ofWord(0, 0) = 1
            ofWord(1, 0) = 3
            ofWord(2, 0) = 1
            ofWord(3, 0) = 3
            ofWord(2, 4) = 1
            count(8) = -999580867
            # draws: 4310654, 9862832, 2589156, 12872603: all but the last are even
            count(3) = 3
            ofWord(3, 5) = 2
            """);
        Script.run("21 NAMES of an ORDER", """
            place() = 0
            place() = 1
            place() = 2
            near(0, 1, 1) = 0
            near(0, 2, 1) = 0
            near(1, 2, 9) = 0
            aim(0, 11) = 1
            # a word as long as none has COME: k is 9
            tape((k=9)*4)
            text(0) = 1
            live(1) = 1
            ofWord(0, 0) = 4
            word(3, 21, 1) = 1
            word(2, 20, 1) = 2
            word(5, 10, 1) = 3
            word(1, 10, 0) = 4
            # 2 and 3 COME in 2: the latest, the one with the greatest number; c is 2
            tape((c=2)*k)
            text(0) = 1
            live(1) = 2
            count(2) = 5
            live(1) = 3
            count(2) = 6
            ofWord(5, 0) = 5
            ofWord(5, 4) = 2
            # s as it is then: 0 has begun by that
            tape(s)
            text(0) = 1
            live(1) = 4
            ofWord(6, 0) = 3
            tape((y=5)*6)
            text(0) = 1
            live(2) = 6
            count(2) = 8
            ofWord(7, 4) = 5
            ofWord(7, 5) = 8
            """);
        Script.run("21 the first WORD of all, and the next", """
            place() = 0
            place() = 1
            near(0, 1, 3) = 0
            aim(1, 0) = 1
            tape((k=1)*(c=1)*(s=0)*2)
            text(1) = 1
            word(1, 1, 0) = 0
            live(3) = 3
            count(2) = 1
            live(1) = 4
            count(2) = 2
            ofWord(1, 0) = 2
            ofWord(1, 4) = 3
            live(9) = 13
            count(2) = 2
            made(0, 1, 0) = 6
            """);
        Script.run("21 no AIM at first, and none of other PLACES", """
            place() = 0
            place() = 1
            place() = 2
            place() = 3
            place() = 4
            place() = 5
            near(0, 1, 1) = 0
            near(4, 5, 2) = 0
            tape(1)
            text(1) = 1
            tape(2)
            text(4) = 1
            tape(3)
            text(5) = 1
            live(1) = 1
            count(2) = 0
            aim(4, 53) = 1
            aim(1, 0) = 1
            live(1) = 2
            count(2) = 2
            ofWord(0, 0) = 1
            ofWord(0, 1) = 1
            ofWord(0, 2) = 0
            ofWord(0, 3) = 0
            ofWord(1, 0) = 2
            ofWord(1, 1) = 4
            ofWord(1, 2) = 5
            ofWord(1, 3) = 3
            ofWord(1, 4) = 1
            ofWord(1, 5) = 3
            """);
        Script.run("21 s counts what was sent in the same YEAR", """
            place() = 0
            place() = 1
            near(0, 1, 1) = 0
            aim(0, 10) = 1
            tape(s*4)
            text(0) = 1
            live(1) = 1
            count(2) = 0
            word(1, 1, 0) = 0
            live(1) = 2
            count(2) = 2
            ofWord(1, 0) = 4
            stance(0, 0, 1) = 0
            live(1) = 3
            count(2) = 2
            """);
    }
}
