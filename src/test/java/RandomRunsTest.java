import java.lang.reflect.Method;
import java.util.ArrayList;
import java.util.List;
import java.util.Random;

/** Runs of 512 random calls, the same ones at NineYears and at PlainYears: their answers must be alike. */
public final class RandomRunsTest {
    // A letter for each argument says from which numbers it is drawn (see draw()).
    private static final String[] CALLS = {
        "place ", "near PPn", "way PP", "route PPi", "rule 2r", "loss q", "word kfp", "ofWord w9", "lose w",
        "as wk", "words s", "came PpY", "stance Ppy", "made PPp", "knows PpY", "text u", "law uxx", "aim Pa",
        "live l", "soon fdd", "odds 552", "enough 5h", "pays bv", "rest p", "answer p22", "work cc", "blind Wq",
        "edge Wd", "minds 22", "heirs dq2", "goods fgh", "seed x", "voice w5x", "trace d", "sheet sBN", "put sNX",
        "move sNsNN", "image ", "restore ", "tell w", "check Pp", "count d", "told 7"
    };
    private static final int RUNS = 1500;
    private static final int CALLS_EACH = 512;

    private final Random random;
    private final NineYears is = new NineYears();
    private final PlainYears due = new PlainYears();
    private final List<String> log = new ArrayList<>();
    // Some runs are about some of the calls alone, so that they come far with these.
    private final int[] weights = new int[CALLS.length + 5];

    private final int wildness;

    private RandomRunsTest(long seed) {
        random = new Random(seed);
        wildness = seed % 10 == 0 ? 3 : 30;
        for (int i = 0; i < weights.length; i++) {
            weights[i] = 1 + random.nextInt(random.nextInt(4) == 0 ? 12 : 3);
        }
        weight("place ", seed % 3 == 0 ? 3 : 1);
        weight("word kfp", 4 + random.nextInt(30));
        weight("stance Ppy", 10);
        weight("made PPp", 10);
        weight("live l", random.nextInt(30));
        weight("near PPn", random.nextInt(5));
        weight("image ", random.nextInt(3));
        weight("minds 22", 1);
        weight("restore ", random.nextInt(2));
        weight("sheet sBN", 2);
        weight("put sNX", 8);
    }

    private void weight(String call, int w) {
        for (int i = 0; i < CALLS.length; i++) {
            if (CALLS[i].equals(call)) {
                weights[i] = w;
            }
        }
    }

    private int below(int n) {
        return random.nextInt(Math.max(1, n));
    }

    private int wild() {
        int[] edges = {-1, -2, 6, 7, 10, 99, 100, 399, 400, 512, Integer.MAX_VALUE, Integer.MIN_VALUE, 1000000};
        return below(3) == 0 ? random.nextInt() : edges[below(edges.length)];
    }

    private int draw(char sort) {
        if (below(wildness) == 0) {
            return wild();
        }
        int places = due.all.places;
        int now = due.all.now;
        switch (sort) {
            case 'P': return below(places);
            case 'p': return below(4) == 0 ? below(5) : 0;
            case 'k': return below(7);
            case 'n': return below(3) == 0 ? below(32) : below(6);
            case 'i': return below(8) - 1;
            case 'r': return below(2) == 0 ? below(12) : below(105);
            case 'q': return 10 * below(5) + below(10);
            case 'f': return 10 * below(places) + below(places);
            case 'w': return below(due.all.sent.size());
            case 's': return below(4);
            case 'Y': return below(2) == 0 ? below(400) : Math.min(399, now + below(30));
            case 'y': return below(2) == 0 ? now : below(now + 2);
            case 'u': return below(9);
            case 'x': return below(2) == 0 ? below(20) - 5 : random.nextInt();
            case 'a': return 10 * below(places) + below(4) - (below(9) == 0 ? 1 : 0);
            case 'l': return below(8) == 0 ? below(51) : below(6);
            case 'd': return below(10);
            case 'h': return below(102);
            case 'b': return 20 * below(4) + 10 * below(2) + below(5);
            case 'v': return below(2) == 0 ? below(3) : below(202) - 101;
            case 'c': return below(2) == 0 ? below(5) : below(1001);
            case 'W': return below(due.all.works.size());
            case 'g': return below(100001);
            case 'B': return new int[] {8, 16, 32, 8, 8, 8, 0, 7}[below(8)];
            case 'N': return below(below(2) == 0 ? 6 : 42);
            case 'X': return below(2) == 0 ? 256 * below(3) + below(7) : below(70);
            default: return below(sort - '0');
        }
    }

    private void call(String name, Object... args) throws ReflectiveOperationException {
        Class<?>[] types = new Class<?>[args.length];
        StringBuilder line = new StringBuilder(name).append('(');
        for (int i = 0; i < args.length; i++) {
            types[i] = args[i] instanceof Long ? long.class : int.class;
            line.append(i == 0 ? "" : ", ").append(args[i]);
        }
        Method isMethod = NineYears.class.getMethod(name, types);
        Method dueMethod = PlainYears.class.getMethod(name, types);
        dueMethod.setAccessible(true);
        long got = ((Number) isMethod.invoke(is, args)).longValue();
        long want = ((Number) dueMethod.invoke(due, args)).longValue();
        log.add(line.append(") ").append(got).toString());
        if (got != want) {
            throw new IllegalStateException(line + ", due is " + want);
        }
    }

    private String randomText(int depth, String names) {
        int sort = below(depth > 5 ? 2 : 5);
        if (sort == 0) {
            return Integer.toString(below(4) == 0 ? below(11000) : below(10));
        }
        if (sort == 1) {
            return names.substring(below(names.length())).substring(0, 1);
        }
        if (sort == 2) {
            return below(2) == 0 ? "!" + randomText(depth + 1, names) : "(" + randomText(depth + 1, names) + ")";
        }
        return randomText(depth + 1, names) + "|&<=>+-*/%+-*&=".charAt(below(15)) + randomText(depth + 1, names);
    }

    private static final String[] ORDERS = {
        "(s=0)&(c=0)|(s=0)*2*(k=1)", "1", "2", "(y%3=0)*(k%7)", "k=1+1", "y%7", "(c=y)*5+(y=4)*6", "s+1", "c%4+1",
        "2*(k=1)+3*(s=2)+(s=0)*(y%5=0)*(k>2)"
    };
    private static final String[] RULES = {"o<t", "r>0", "r<0|r=0&o<t", "a<b", "a+o<b+t", "(o<t)=(a>b)", "o%2=0", "!r"};

    private void feedText() throws ReflectiveOperationException {
        int use = below(8);
        String names = use < 6 ? "scky" : "otrab";
        String[] common = use < 6 ? ORDERS : RULES;
        String text = below(2) == 0 ? common[below(common.length)] : randomText(0, names);
        StringBuilder bytes = new StringBuilder(text.length() > 50 ? text.substring(0, 50) : text);
        if (below(4) == 0 && bytes.length() > 0) {
            bytes.setCharAt(below(bytes.length()), "()!|&<=>+-*/%0123456789sckyotrab ".charAt(below(33)));
        }
        for (int at = 0; at < bytes.length(); at += 8) {
            int n = Math.min(8, bytes.length() - at);
            long word = 0;
            for (int i = n - 1; i >= 0; i--) {
                word = word << 8 | bytes.charAt(at + i);
            }
            call("feed", word, n);
        }
        call("text", use);
        if (use < due.all.places && below(2) == 0) {
            call("aim", use, 10 * below(due.all.places) + (below(2) == 0 ? 0 : below(4)));
            call("live", 1 + below(3));
        }
    }

    private void feedWild() throws ReflectiveOperationException {
        call("feed", random.nextLong(), below(10));
    }

    private void tellAndCheck() throws ReflectiveOperationException {
        int place = below(due.all.places);
        int pact = below(2) == 0 ? 0 : below(4);
        for (int w : due.come(place, pact, due.all.now)) {
            if (below(25) != 0) {
                call("tell", w);
            }
        }
        if (below(6) == 0) {
            call("tell", 3);
        }
        call("check", place, pact);
    }

    private int pair() {
        int from = below(due.all.places);
        int to = below(due.all.places);
        return from == to ? draw('f') : 10 * from + to;
    }

    private void sheetOfWords() throws ReflectiveOperationException {
        int threes = below(5);
        int bits = 8 << below(3);
        int sheet = below(4);
        call("sheet", sheet, bits, 3 * threes + below(3));
        for (int i = 0; i < threes; i++) {
            call("put", sheet, 3 * i, (bits == 32 ? 0 : random.nextInt() << bits) + below(7));
            call("put", sheet, 3 * i + 1, pair());
            call("put", sheet, 3 * i + 2, below(10) == 0 ? 4 : below(4));
        }
        if (below(2) == 0) {
            int other = below(4);
            call("sheet", other, bits, 3 * threes + 3 + below(3));
            call("move", sheet, 0, other, 3 * below(2), 3 * threes);
            call("move", other, 3, other, below(4), Math.max(0, 3 * threes - 3));
            call("words", other);
        }
        call("words", sheet);
    }

    private void talk() throws ReflectiveOperationException {
        int pair = pair();
        int back = pair % 10 * 10 + pair / 10;
        int pact = below(4);
        for (int i = below(6); i >= 0; i--) {
            int kind = below(3) == 0 ? below(7) : 1 + below(2);
            call("word", kind, below(2) == 0 ? pair : back, pact);
            call("stance", pair / 10, pact, due.all.now);
            call("stance", pair % 10, pact, due.all.now);
            if (below(2) == 0) {
                call("live", 1 + below(4));
            }
        }
        call("made", pair / 10, pair % 10, pact);
        call("knows", pair / 10, pact, Math.min(399, due.all.now + 9));
    }

    private void callOne() throws ReflectiveOperationException {
        int sum = 0;
        for (int w : weights) {
            sum += w;
        }
        int at = below(sum);
        int i = 0;
        while (at >= weights[i]) {
            at -= weights[i];
            i++;
        }
        if (i == CALLS.length) {
            feedText();
        } else if (i == CALLS.length + 1) {
            feedWild();
        } else if (i == CALLS.length + 2) {
            tellAndCheck();
        } else if (i == CALLS.length + 3) {
            sheetOfWords();
        } else if (i == CALLS.length + 4) {
            talk();
        } else {
            String name = CALLS[i].substring(0, CALLS[i].indexOf(' '));
            String sorts = CALLS[i].substring(name.length() + 1);
            Object[] args = new Object[sorts.length()];
            for (int k = 0; k < args.length; k++) {
                args[k] = draw(sorts.charAt(k));
            }
            call(name, args);
        }
    }

    private void run() throws ReflectiveOperationException {
        int places = 2 + below(5);
        int far = below(2) == 0 ? 4 : 30;
        for (int i = 0; i < places; i++) {
            call("place");
        }
        call("near", 0, 1, 1 + below(far));
        for (int i = below(12); i > 0; i--) {
            call("near", draw('P'), draw('P'), below(far));
        }
        while (log.size() < CALLS_EACH) {
            callOne();
        }
    }

    public static void main(String[] args) {
        int runs = args.length > 0 ? Integer.parseInt(args[0]) : RUNS;
        for (int seed = 0; seed < runs; seed++) {
            RandomRunsTest test = new RandomRunsTest(seed);
            try {
                test.run();
            } catch (ReflectiveOperationException | RuntimeException e) {
                System.out.println("seed " + seed + ", call " + test.log.size() + ": " + e + " " + e.getCause());
                for (String line : test.log) {
                    System.out.println("  " + line);
                }
                System.exit(1);
            }
        }
        System.out.println(runs + " random runs: all answers are alike");
    }
}
