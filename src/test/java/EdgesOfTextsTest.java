/** The edges of TEXTS: these of the document's part 2, promises 17 to 19. */
public final class EdgesOfTextsTest {
    private EdgesOfTextsTest() { }

    public static void main(String[] args) {
        tape();
        grammar();
        openOnes();
        ints();
        faults();
        names();
        noText();
        feed();
        text();
        law();
        Script.end();
    }

    /**
     * TEXTS of USE 0, each as "s+1:8", which gives 8 with s 7 and c -3, or as "s+@2", with a FAULT at 2.
     * What is in front of them is run first.
     */
    private static void texts(String section, String sentence, String... cases) {
        StringBuilder lines = new StringBuilder();
        for (String c : cases) {
            int fault = c.lastIndexOf('@');
            int end = fault >= 0 ? fault : c.lastIndexOf(':');
            String due = c.substring(end + 1);
            lines.append("tape(").append(c, 0, end).append(")\n");
            if (fault >= 0) {
                lines.append("text(0) = ").append(-10 - Integer.parseInt(due)).append('\n');
            } else {
                lines.append("text(0) = 1\nlaw(0, 7, -3) = ").append(due).append('\n');
            }
        }
        Script.edge(section, sentence, lines.toString());
    }

    private static void tape() {
        Script.edge("Terms 2", "TEXTS are read from THE TAPE (bytes, at most 50)", """
            # 10 and 24 times 1, in 50 bytes
            tape(10+1+1+1+1+1+1+1+1+1+1+1+1+1+1+1+1+1+1+1+1+1+1+1+1)
            count(5) = 50
            feed(49, 1) = FULL
            text(0) = 1
            law(0, 0, 0) = 34
            # the most numbers that stand open at once in 50 bytes
            tape(1|1&1<1+1*(1|1&1<1+1*(1|1&1<1+1*(1|1&1<1+1*(10)))))
            count(5) = 50
            text(7) = 1
            law(7, 0, 0) = 1
            tape(!!!!!1+!!!!!1+!!!!!1+!!!!!1+!!!!!1+!!!!!1+!!!!!0)
            count(5) = 48
            text(0) = 1
            law(0, 0, 0) = 1
            """);
    }

    private static void grammar() {
        texts("Terms 2", "T: A { | A }.", "0|0:0", "0|5:1", "0|0|0|s:1", "0|@2", "|0@0", "0||0@2", "1|0&0:1", "0&0|1:1");
        texts("Terms 2", "A: B { & B }.", "1&0:0", "2&5:1", "1&1&1&0:0", "1&@2", "&1@0", "1&&1@2", "1&2=2:1", "2=2&1:1");
        texts("Terms 2", "B: S, or S < S, S = S, S > S.", "s<8:1", "s<7:0", "s=7:1", "s=6:0", "s>6:1", "s>7:0", "s<@2", "<s@0",
            "s<<c@2", "s=<c@2", "s<=c@2", "s==c@2", "s<c<1@3", "s<c=1@3", "s=c>1@3", "s>c+1>1@5", "s<c&s<c:0", "s<c|s>c:1",
            "s>c=1@3", "(s>c)=1:1", "1=(s>c):1", "1+1<1+2:1", "s>c|s>c>0@7");
        texts("Terms 2", "S: P { + P, - P }.", "1+2:3", "1-2:-1", "9-1-1-1:6", "9-1+1:9", "1+2*3:7", "2*3+1:7", "1+@2", "1-@2",
            "+1@0", "-1@0", "1+-1@2", "1--1@2", "1++1@2");
        texts("Terms 2", "P: Q { * Q, / Q, % Q }.", "2*3:6", "7/2:3", "7%4:3", "24/4/3:2", "24/4*3:18", "7%4*2:6", "2*7%4:2", "2*@2",
            "2/@2", "2%@2", "*2@0", "/2@0", "%2@0", "2**3@2", "2*!0:2");
        texts("Terms 2", "Q: a NUMBER of 1 to 4 digits, a NAME, ! Q, ( T ).", "0:0", "9:9", "10:10", "999:999", "9999:9999",
            "0000:0", "0009:9", "00000@4", "10000@4", "99999@4", "1+12345@6", "(12345)@5", "s:7", "c:-3", "k:0", "y:0", "ss@1",
            "s1@1", "1s@1", "12s@2", "S@0", "!0:1", "!1:0", "!!0:0", "!(0):1", "!@1", "!)@1", "!+@1", "(1):1", "((1)):1", "(1|0):1",
            "(@1", "()@1", "(1@2", "(1))@3", ")@0", "(1)(@3", "(1)1@3", "1(@1", "1!1@1", "(1)!@3", "(1+)@3");
        texts("Terms 2", "No blanks.", " 1@0", "1 @1", "1 +1@1", "1+ 1@2", "( 1)@1", "! 1@1", "1 1@1");
        Script.edge("Terms 2", "No blanks.", """
            # 9, 10, 13, 0, 160 are none either
            feed(2353, 2) = 2
            text(0) = -11
            feed(2609, 2) = 2
            text(0) = -11
            feed(3377, 2) = 2
            text(0) = -11
            feed(49, 2) = 2
            text(0) = -11
            feed(41009, 2) = 2
            text(0) = -11
            feed(0, 1) = 1
            text(0) = -10
            """);
    }

    private static void openOnes() {
        texts("Terms 2", "At most 5 of ! and ( are open at once.", "!!!!!0:1", "!!!!!!0@5", "(((((s))))):7", "((((((s))))))@5",
            "!(!(!0)):1", "!(!(!!0))@5", "!(!(!(0)))@5", "!!!!(0):0", "!!!!!(0)@5", "((((!0)))):1", "((((!!0))))@5",
            "(((((!0)))))@5", "(((((s+!0)))))@7");
        texts("Terms 2", "are open at once", "!!!!!0+!!!!!0:2", "(((((s)))))+(((((s))))):14", "((((!0+!0)))):2", "((((!0+!(0)))))@8",
            "((((!0+(0))))):1", "!!!!!s*!!!!!s:0", "(!!!!0)+!!!!!0:1", "(!!!!0+!!!!0):0", "(!!!!0+!!!!!0)@11",
            "((((s)+(s)))):14", "((((s)+((s))))):14", "(((((s)+((s))))))@9");
    }

    private static void ints() {
        Script.edge("Terms 2", "Ints that wrap", """
            tape(s+c)
            text(0) = 1
            law(0, MAX, 1) = MIN
            law(0, MIN, -1) = MAX
            law(0, MAX, MAX) = -2
            tape(s-c)
            text(0) = 1
            law(0, MIN, 1) = MAX
            law(0, MAX, -1) = MIN
            law(0, 0, MIN) = MIN
            tape(s*c)
            text(0) = 1
            law(0, MAX, 2) = -2
            law(0, MIN, -1) = MIN
            law(0, 65536, 65536) = 0
            law(0, 65536, 32768) = MIN
            # 9999 * 9999 is 99980001; 25 times that is 2499500025
            tape(9999*9999*25)
            text(0) = 1
            law(0, 0, 0) = -1795467271
            # nothing is lost by going round in between
            tape(s+c-c*2+c)
            text(0) = 1
            law(0, 5, MAX) = 5
            """);
        Script.edge("Terms 2", "/ cut", """
            tape(s/c)
            text(0) = 1
            law(0, 7, 2) = 3
            law(0, -7, 2) = -3
            law(0, 7, -2) = -3
            law(0, -7, -2) = 3
            law(0, 1, 2) = 0
            law(0, -1, 2) = 0
            law(0, MIN, -1) = MIN
            law(0, MIN, MAX) = -1
            law(0, MAX, MIN) = 0
            """);
        Script.edge("Terms 2", "% the rest that it leaves", """
            tape(s%c)
            text(0) = 1
            law(0, 7, 2) = 1
            law(0, -7, 2) = -1
            law(0, 7, -2) = 1
            law(0, -7, -2) = -1
            law(0, 6, 3) = 0
            law(0, MIN, -1) = 0
            law(0, MIN, MAX) = -1
            law(0, MAX, MIN) = MAX
            """);
        Script.edge("Terms 2", "both by 0 are 0", """
            tape(s/c)
            text(0) = 1
            law(0, 7, 0) = 0
            law(0, 0, 0) = 0
            law(0, MIN, 0) = 0
            tape(s%c)
            text(0) = 1
            law(0, 7, 0) = 0
            law(0, 0, 0) = 0
            law(0, MAX, 0) = 0
            tape(5/0+5%0+2)
            text(0) = 1
            law(0, 0, 0) = 2
            """);
        Script.edge("Terms 2", "| & < = > ! are 1 or 0, what is not 0 being true", """
            tape(s|c)
            text(0) = 1
            law(0, 0, 0) = 0
            law(0, 0, -1) = 1
            law(0, MIN, 0) = 1
            law(0, 4, 2) = 1
            tape(s&c)
            text(0) = 1
            law(0, 4, 2) = 1
            law(0, -1, MIN) = 1
            law(0, -1, 0) = 0
            law(0, 0, 5) = 0
            law(0, 0, 0) = 0
            tape(!s)
            text(0) = 1
            law(0, 0, 0) = 1
            law(0, 1, 0) = 0
            law(0, -1, 0) = 0
            law(0, MIN, 0) = 0
            tape(s<c)
            text(0) = 1
            law(0, MIN, MAX) = 1
            law(0, MAX, MIN) = 0
            law(0, -1, 0) = 1
            law(0, 0, 0) = 0
            tape(s>c)
            text(0) = 1
            law(0, MIN, MAX) = 0
            law(0, MAX, MIN) = 1
            law(0, 0, 0) = 0
            tape(s=c)
            text(0) = 1
            law(0, MIN, MAX) = 0
            law(0, MIN, MIN) = 1
            law(0, 1, -1) = 0
            """);
        texts("Terms 2", "all is worked out", "1|5/0:1", "0&5/0:0", "5/0|1:1", "(1|0)+(0&1)+(1|1):2", "0*(5/0)+s:7");
    }

    private static void faults() {
        texts("Terms 2", "FAULT: the place of the first byte with which no TEXT goes on", "x@0", "1x@1", "s+x@2", "s<c<k@3",
            "12345@4", "((((((@5", "s+c*k-y/1%)@10", "1;2@1", "1,2@1", "s&c^k@3", "~s@0", "1.5@1", "s[1@1");
        texts("Terms 2", "how many there are, if it ends too early", "@0", "(@1", "!@1", "s+@2", "s<@2", "(s@2", "((s)@4", "(s<c@4",
            "!(s|c@5", "1+1+1+1+1+1+1+1+1+1+1+1+1+1+1+1+1+1+1+1+1+1+1+1+1+@50", "(1+1+1+1+1+1+1+1+1+1+1+1+1+1+1+1+1+1+1+1+1+1+1+111@50",
            "1+1+1+1+1+1+1+1+1+1+1+1+1+1+1+1+1+1+1+1+1+1+1+1+!(@50", "1+1+1+1+1+1+1+1+1+1+1+1+1+1+1+1+1+1+1+1+1+1+1+1+)@48");
    }

    private static void names() {
        Script.edge("Terms 2", "USES: 0 to 5 ORDER of PLACE 0 to 5, NAMES s STANCE", """
            tape(s+c*k-y)
            text(0) = 1
            tape(s)
            text(5) = 1
            law(5, 3, 4) = 3
            tape(c)
            text(5) = 1
            law(5, 3, 4) = 4
            tape(k)
            text(5) = 1
            law(5, 3, 4) = 0
            tape(y)
            text(5) = 1
            law(5, 3, 4) = 0
            tape(o)
            text(0) = -10
            tape(t)
            text(1) = -10
            tape(r)
            text(2) = -10
            tape(a)
            text(3) = -10
            tape(b)
            text(5) = -10
            """);
        Script.edge("Terms 2", "6, 7 RULES, NAMES o own number, t that of the other, r own YEAR less that of the other, a own PLACE, b the other one.", """
            tape(o+t+r+a+b)
            text(6) = 1
            tape(o)
            text(7) = 1
            law(7, 3, 4) = 3
            tape(t)
            text(7) = 1
            law(7, 3, 4) = 4
            tape(r)
            text(7) = 1
            law(7, 3, 4) = 0
            tape(a)
            text(7) = 1
            law(7, 3, 4) = 0
            tape(b)
            text(7) = 1
            law(7, 3, 4) = 0
            tape(s)
            text(6) = -10
            tape(c)
            text(7) = -10
            tape(k)
            text(6) = -10
            tape(y)
            text(7) = -10
            """);
    }

    private static void noText() {
        StringBuilder lines = new StringBuilder();
        for (int use = 0; use < 8; use++) {
            lines.append("law(" + use + ", 1, 1) = 0\nlaw(" + use + ", MIN, MAX) = 0\n");
        }
        Script.edge("Terms 2", "Without a TEXT an ORDER gives 0, a RULE 0.", lines + Worlds.TWO + """
            aim(0, 10) = 1
            aim(1, 0) = 1
            live(5) = 5
            count(2) = 0
            # each keeps its own
            minds(0, 0) = 900
            minds(1, 0) = 900
            # a FAULT makes none
            tape(1+)
            text(0) = -12
            law(0, 1, 1) = 0
            live(1) = 6
            count(2) = 0
            """);
    }

    private static void feed() {
        StringBuilder lengths = new StringBuilder();
        int there = 0;
        for (int n = 1; n <= 8; n++) {
            there += n;
            lengths.append("feed(0, " + n + ") = " + there + "\n");
        }
        Script.edge("Promise 17", "The n lowest bytes (1 .. 8) of a word, the lowest first, come to THE TAPE: how many there are.", lengths + """
            count(5) = 36
            text(0) = -10
            # 49 is '1', 43 '+': 1+1, and 50 above the three bytes that come
            feed(842083121, 3) = 3
            text(0) = 1
            law(0, 0, 0) = 2
            # all eight: 9999+999, of which the highest byte is 57
            feed(4123389791640828217, 8) = 8
            text(0) = 1
            law(0, 0, 0) = 10998
            # below 0: the highest bytes are 255, the lowest is '7'
            feed(-201, 1) = 1
            text(0) = 1
            law(0, 0, 0) = 7
            feed(-201, 2) = 2
            text(0) = -11
            feed(-201, 8) = 8
            text(0) = -11
            """);
        Script.edge("Promise 17", "BEYOND.", """
            feed(49, 0) = BEYOND
            feed(49, 9) = BEYOND
            feed(49, -1) = BEYOND
            feed(49, MIN) = BEYOND
            feed(49, MAX) = BEYOND
            count(5) = 0
            feed(49, 1) = 1
            feed(0, 8) = 9
            """);
        Script.edge("Promise 17", "FULL.", """
            feed(3544668469065756977, 8) = 8
            feed(3544668469065756977, 8) = 16
            feed(3544668469065756977, 8) = 24
            feed(3544668469065756977, 8) = 32
            feed(3544668469065756977, 8) = 40
            feed(49, 2) = 42
            # 42 and 8 are 50
            image() = 1
            feed(49, 8) = 50
            feed(49, 1) = FULL
            feed(49, 8) = FULL
            restore() = 0
            feed(49, 1) = 43
            feed(49, 8) = FULL
            count(5) = 43
            feed(49, 7) = 50
            feed(49, 1) = FULL
            count(5) = 50
            # there is room again
            text(0) = -14
            feed(49, 8) = 8
            """);
    }

    private static void text() {
        Script.edge("Promise 18", "THE TAPE, which is empty then, is the TEXT of a USE (0 to 7), in place of one ahead: 1.", """
            tape(1)
            text(0) = 1
            count(5) = 0
            tape(2)
            text(7) = 1
            law(0, 0, 0) = 1
            law(7, 0, 0) = 2
            # a longer one, then a shorter one, of another USE nothing
            tape(1+2+3+4+5)
            text(7) = 1
            law(7, 0, 0) = 15
            tape(9)
            text(7) = 1
            law(7, 0, 0) = 9
            law(0, 0, 0) = 1
            law(6, 0, 0) = 0
            law(1, 0, 0) = 0
            """);
        Script.edge("Promise 18", "BEYOND (THE TAPE stays).", """
            tape(1+)
            text(8) = BEYOND
            text(-1) = BEYOND
            text(MAX) = BEYOND
            text(MIN) = BEYOND
            count(5) = 2
            tape(4)
            text(7) = 1
            law(7, 0, 0) = 5
            # an empty one stays so
            text(8) = BEYOND
            count(5) = 0
            text(0) = -10
            """);
        Script.edge("Promise 18", "-10 less the FAULT (no ERROR; the one ahead stays).", """
            tape(5)
            text(0) = 1
            text(0) = -10
            law(0, 0, 0) = 5
            tape(1+)
            text(0) = -12
            count(5) = 0
            law(0, 0, 0) = 5
            tape(1+2+3+4+(5)
            text(0) = -20
            law(0, 0, 0) = 5
            # the greatest of all
            tape(1+1+1+1+1+1+1+1+1+1+1+1+1+1+1+1+1+1+1+1+1+1+1+1+1+)
            text(0) = -60
            law(0, 0, 0) = 5
            told(1) = 0
            told(2) = 0
            told(3) = 0
            told(4) = 0
            told(5) = 0
            """);
    }

    private static void law() {
        Script.edge("Promise 19", "What a USE gives (any number) with all its NAMES 0, but for the first two in order: a, b.", """
            tape(s*100+c*10+k+y)
            text(0) = 1
            law(0, 3, 4) = 340
            law(0, -3, -4) = -340
            tape(o*100+t*10+r+a+b)
            text(6) = 1
            law(6, 3, 4) = 340
            tape(s-c)
            text(5) = 1
            law(5, MIN, 0) = MIN
            law(5, MAX, 0) = MAX
            # those like ERRORS are none
            law(5, -1000000, 1) = -1000001
            law(5, -1000000, 5) = -1000005
            told(1) = 0
            told(5) = 0
            # no YEAR, no STANCE of its own
            """ + Worlds.TWO + """
            word(5, 1, 0) = 0
            live(9) = 9
            law(5, 0, 0) = 0
            law(0, 0, 0) = 0
            """);
        Script.edge("Promise 19", "BEYOND.", """
            law(0, 0, 0) = 0
            law(7, 0, 0) = 0
            law(8, 0, 0) = BEYOND
            law(-1, 0, 0) = BEYOND
            law(MAX, 0, 0) = BEYOND
            law(MIN, 0, 0) = BEYOND
            """);
    }
}
