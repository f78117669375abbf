import java.math.BigInteger;
import java.util.ArrayDeque;
import java.util.ArrayList;
import java.util.Arrays;
import java.util.List;

/**
 * The document once more, word by word and with no thought of speed: what NineYears answers in
 * random runs is held against it. It shares no code with NineYears, and goes other ways on purpose.
 */
final class PlainYears {
    static final int LOW = -1000000;
    static final int BEYOND = LOW - 1;
    static final int NONE = LOW - 2;
    static final int STATE = LOW - 3;
    static final int FULL = LOW - 4;
    static final int KIND = LOW - 5;

    record Sent(int kind, int from, int to, int pact, int year, int term, int comes) { }

    static final class All {
        int places;
        int[][] near = new int[6][6];
        List<Sent> sent = new ArrayList<>();
        List<Boolean> lost = new ArrayList<>();
        int now;
        int term = 20;
        int speed = 2;
        int p = 0;
        int q = 1;
        int z = 1;
        String tape = "";
        String[] texts = new String[8];
        int[] aims = {-1, -1, -1, -1, -1, -1};
        int[][][] pays = new int[4][2][4];
        List<int[]> works = new ArrayList<>();
        List<Integer> waiting = new ArrayList<>();

        All copy() {
            All c = new All();
            c.places = places;
            for (int i = 0; i < 6; i++) {
                c.near[i] = near[i].clone();
            }
            c.sent = new ArrayList<>(sent);
            c.lost = new ArrayList<>(lost);
            c.now = now;
            c.term = term;
            c.speed = speed;
            c.p = p;
            c.q = q;
            c.z = z;
            c.tape = tape;
            c.texts = texts.clone();
            c.aims = aims.clone();
            for (int i = 0; i < 4; i++) {
                c.pays[i] = new int[][] {pays[i][0].clone(), pays[i][1].clone()};
            }
            c.works = new ArrayList<>(works);
            c.waiting = new ArrayList<>(waiting);
            return c;
        }
    }

    All all = new All();
    All image = null;
    int images = 0;
    int[] told = new int[6];
    List<Integer> trace = new ArrayList<>();
    int[] bits = new int[4];
    long[][] rows = new long[4][];

    PlainYears copy() {
        PlainYears c = new PlainYears();
        c.all = all.copy();
        c.image = image == null ? null : image.copy();
        c.images = images;
        c.told = told.clone();
        c.trace = new ArrayList<>(trace);
        c.bits = bits.clone();
        for (int i = 0; i < rows.length; i++) {
            c.rows[i] = rows[i] == null ? null : rows[i].clone();
        }
        return c;
    }

    int error(int e) {
        told[LOW - e]++;
        return e;
    }

    boolean pl(int i) {
        return 0 <= i && i < all.places;
    }

    static boolean in(int v, int a, int b) {
        return a <= v && v <= b;
    }

    boolean ft(int ft) {
        return ft >= 0 && pl(ft / 10) && pl(ft % 10) && ft / 10 != ft % 10;
    }

    // every ROUTE without a PLACE twice, the best one kept
    List<Integer> best;
    int bestSum;

    void paths(List<Integer> path, int sum, int goal) {
        int at = path.get(path.size() - 1);
        if (at == goal) {
            if (best == null || better(sum, path)) {
                best = new ArrayList<>(path);
                bestSum = sum;
            }
            return;
        }
        for (int n = 5; n >= 0; n--) {
            if (all.near[at][n] > 0 && !path.contains(n)) {
                path.add(n);
                paths(path, sum + all.near[at][n], goal);
                path.remove(path.size() - 1);
            }
        }
    }

    boolean better(int sum, List<Integer> path) {
        if (sum != bestSum) {
            return sum < bestSum;
        }
        if (path.size() != best.size()) {
            return path.size() < best.size();
        }
        for (int i = 0; i < path.size(); i++) {
            if (!path.get(i).equals(best.get(i))) {
                return path.get(i) < best.get(i);
            }
        }
        return false;
    }

    boolean find(int one, int other) {
        best = null;
        paths(new ArrayList<>(List.of(one)), 0, other);
        return best != null;
    }

    public int place() {
        return all.places == 6 ? error(FULL) : all.places++;
    }

    public int near(int one, int other, int years) {
        if (!pl(one) || !pl(other) || one == other || !in(years, 0, 30)) {
            return error(BEYOND);
        }
        int was = all.near[one][other];
        all.near[one][other] = years;
        all.near[other][one] = years;
        return was;
    }

    public int way(int one, int other) {
        if (!pl(one) || !pl(other)) {
            return error(BEYOND);
        }
        return find(one, other) ? bestSum : error(NONE);
    }

    public int route(int one, int other, int i) {
        if (!pl(one) || !pl(other) || i < -1) {
            return error(BEYOND);
        }
        if (!find(one, other)) {
            return error(NONE);
        }
        if (i == -1) {
            return best.size();
        }
        return i < best.size() ? best.get(i) : error(NONE);
    }

    public int rule(int what, int v) {
        if (!in(what, 0, 1) || (what == 0 ? !in(v, 0, 99) : !in(v, 2, 9))) {
            return error(BEYOND);
        }
        int was = what == 0 ? all.term : all.speed;
        if (what == 0) {
            all.term = v;
        } else {
            all.speed = v;
        }
        return was;
    }

    public int loss(int pq) {
        if (!in(pq, 0, 99) || pq % 10 == 0 || pq / 10 > pq % 10) {
            return error(BEYOND);
        }
        int was = 10 * all.p + all.q;
        all.p = pq / 10;
        all.q = pq % 10;
        return was;
    }

    int tryWord(int kind, int ft, int pact) {
        if (!in(kind, 0, 6) || !ft(ft) || !in(pact, 0, 3)) {
            return BEYOND;
        }
        if (!find(ft / 10, ft % 10)) {
            return NONE;
        }
        if (all.sent.size() == 80) {
            return FULL;
        }
        all.z = all.z * 1103515245 + 12345;
        all.sent.add(new Sent(kind, ft / 10, ft % 10, pact, all.now, all.term,
            all.now + bestSum + (kind == 6 ? 2 : 0)));
        all.lost.add((all.z >>> 8) % all.q < all.p);
        return all.sent.size() - 1;
    }

    public int word(int kind, int ft, int pact) {
        int got = tryWord(kind, ft, pact);
        return got < LOW ? error(got) : got;
    }

    int depth(int w) {
        Sent s = all.sent.get(w);
        int most = 0;
        for (int i = 0; i < all.sent.size(); i++) {
            if (comesTo(i, s.from, s.pact) && all.sent.get(i).comes <= s.year) {
                most = Math.max(most, depth[i] == 0 ? depth[i] = depth(i) : depth[i]);
            }
        }
        return 1 + most;
    }

    int[] depth;

    int depthOf(int w) {
        depth = new int[80];
        return depth(w);
    }

    boolean comesTo(int w, int place, int pact) {
        Sent s = all.sent.get(w);
        return !all.lost.get(w) && s.to == place && s.pact == pact;
    }

    boolean isWord(int w) {
        return 0 <= w && w < all.sent.size();
    }

    public int ofWord(int word, int what) {
        if (!isWord(word) || !in(what, 0, 7)) {
            return error(BEYOND);
        }
        Sent s = all.sent.get(word);
        int comes = all.lost.get(word) ? -1 : s.comes;
        int[] answers = {s.kind, s.from, s.to, s.pact, s.year, comes, s.term, depthOf(word)};
        return answers[what];
    }

    public int lose(int word) {
        if (!isWord(word)) {
            return error(BEYOND);
        }
        if (all.lost.get(word) || all.sent.get(word).comes <= all.now) {
            return error(STATE);
        }
        all.lost.set(word, true);
        return 1;
    }

    static boolean under(int kind, int above) {
        return switch (above) {
            case 0 -> true;
            case 1 -> kind == 1 || kind == 2;
            case 3 -> kind == 3 || kind == 5;
            default -> kind == above;
        };
    }

    public int as(int word, int kind) {
        if (!isWord(word) || !in(kind, 0, 6)) {
            return error(BEYOND);
        }
        return under(all.sent.get(word).kind, kind) ? all.sent.get(word).term : error(KIND);
    }

    public int words(int sheet) {
        if (!in(sheet, 0, 3)) {
            return error(BEYOND);
        }
        if (rows[sheet] == null) {
            return error(NONE);
        }
        long[] row = rows[sheet];
        int many = 0;
        while (3 * many + 2 < row.length
            && tryWord((int) row[3 * many], (int) row[3 * many + 1], (int) row[3 * many + 2]) >= 0) {
            many++;
        }
        return many;
    }

    List<Integer> come(int place, int pact, int year) {
        List<Integer> list = new ArrayList<>();
        for (int y = 0; y <= year; y++) {
            for (int w = 0; w < all.sent.size(); w++) {
                if (comesTo(w, place, pact) && all.sent.get(w).comes == y) {
                    list.add(w);
                }
            }
        }
        return list;
    }

    public int came(int place, int pact, int year) {
        if (!pl(place) || !in(pact, 0, 3) || !in(year, 0, 399)) {
            return error(BEYOND);
        }
        return come(place, pact, year).size();
    }

    boolean over(Sent s, int year) {
        return year > s.year + s.term;
    }

    int[] stances(int place, int pact) {
        int[] answer = new int[all.now + 1];
        int st = 0;
        Sent by = null;
        for (int y = 0; y <= all.now; y++) {
            if (st == 1 && over(by, y)) {
                st = 0;
            }
            for (int w = 0; w < all.sent.size(); w++) {
                Sent s = all.sent.get(w);
                if (comesTo(w, place, pact) && s.comes == y) {
                    st = s.kind == 2 && st == 1 ? 2 : s.kind == 4 && (st == 1 || st == 2) ? 0 : st;
                }
            }
            for (Sent s : all.sent) {
                if (s.from != place || s.pact != pact || s.year != y) {
                    continue;
                }
                boolean asOffer = s.kind == 1;
                if (s.kind == 2) {
                    if (offered(s, y)) {
                        st = Math.max(st, 2);
                    } else {
                        asOffer = true;
                    }
                }
                if (asOffer && st == 0) {
                    st = 1;
                    by = s;
                }
                st = s.kind == 3 && st == 2 ? 3 : s.kind == 4 && st < 3 ? 0 : s.kind == 5 ? 3 : st;
            }
            answer[y] = st;
        }
        return answer;
    }

    boolean offered(Sent yes, int year) {
        for (int w = 0; w < all.sent.size(); w++) {
            Sent s = all.sent.get(w);
            if (under(s.kind, 1) && comesTo(w, yes.from, yes.pact) && s.from == yes.to && s.comes <= year
                && !over(s, year)) {
                return true;
            }
        }
        return false;
    }

    public int stance(int place, int pact, int year) {
        if (!pl(place) || !in(pact, 0, 3) || !in(year, 0, all.now)) {
            return error(BEYOND);
        }
        return stances(place, pact)[year];
    }

    public int made(int one, int other, int pact) {
        if (!pl(one) || !pl(other) || one == other || !in(pact, 0, 3)) {
            return error(BEYOND);
        }
        int[] a = stances(one, pact);
        int[] b = stances(other, pact);
        for (int y = 0; y <= all.now; y++) {
            if (a[y] >= 2 && b[y] >= 2) {
                return y;
            }
        }
        return error(NONE);
    }

    public int knows(int place, int pact, int year) {
        if (!pl(place) || !in(pact, 0, 3) || !in(year, 0, 399)) {
            return error(BEYOND);
        }
        int most = 0;
        for (int w : come(place, pact, year)) {
            most = Math.max(most, depthOf(w));
        }
        return most;
    }

    public int feed(long word, int n) {
        if (!in(n, 1, 8)) {
            return error(BEYOND);
        }
        if (all.tape.length() + n > 50) {
            return error(FULL);
        }
        for (int i = 0; i < n; i++) {
            all.tape += (char) (word & 255);
            word >>= 8;
        }
        return all.tape.length();
    }

    static String namesOf(int use) {
        return use < 6 ? "scky" : "otrab";
    }

    /** Sign by sign, with what is open on a stack; -1: no FAULT. */
    static int fault(String text, String names) {
        ArrayDeque<Character> open = new ArrayDeque<>();
        ArrayDeque<Boolean> outer = new ArrayDeque<>();
        boolean wanted = true;
        boolean compared = false;
        int digits = 0;
        for (int i = 0; i < text.length(); i++) {
            char c = text.charAt(i);
            boolean digit = c >= '0' && c <= '9';
            if (wanted && (c == '!' || c == '(')) {
                if (open.size() == 5) {
                    return i;
                }
                open.push(c);
                if (c == '(') {
                    outer.push(compared);
                    compared = false;
                }
                continue;
            }
            if (!wanted && digit && in(digits, 1, 3)) {
                digits++;
                continue;
            }
            if (wanted) {
                if (!digit && names.indexOf(c) < 0) {
                    return i;
                }
                digits = digit ? 1 : 0;
                wanted = false;
            } else if (c == ')') {
                if (open.isEmpty()) {
                    return i;
                }
                open.pop();
                compared = outer.pop();
                digits = 0;
            } else if ("|&<=>+-*/%".indexOf(c) < 0 || "<=>".indexOf(c) >= 0 && compared) {
                return i;
            } else {
                compared = "<=>".indexOf(c) >= 0 || compared && "|&".indexOf(c) < 0;
                wanted = true;
                continue;
            }
            while (!open.isEmpty() && open.peek() == '!') {
                open.pop();
            }
        }
        return wanted || !open.isEmpty() ? text.length() : -1;
    }

    /** Cuts the text at the last sign of the weakest sort that is not within ( ). */
    static int value(String text, String names, int[] values) {
        for (String sort : new String[] {"|", "&", "<=>", "+-", "*/%"}) {
            int depth = 0;
            for (int i = text.length() - 1; i >= 0; i--) {
                char c = text.charAt(i);
                depth += c == ')' ? 1 : c == '(' ? -1 : 0;
                if (depth == 0 && sort.indexOf(c) >= 0) {
                    return join(c, value(text.substring(0, i), names, values),
                        value(text.substring(i + 1), names, values));
                }
            }
        }
        if (text.charAt(0) == '!') {
            return value(text.substring(1), names, values) == 0 ? 1 : 0;
        }
        if (text.charAt(0) == '(') {
            return value(text.substring(1, text.length() - 1), names, values);
        }
        int name = names.indexOf(text.charAt(0));
        return name >= 0 ? values[name] : Integer.parseInt(text);
    }

    static int join(char sign, int a, int b) {
        return switch (sign) {
            case '|' -> (a != 0) | (b != 0) ? 1 : 0;
            case '&' -> (a != 0) & (b != 0) ? 1 : 0;
            case '<' -> a < b ? 1 : 0;
            case '=' -> a == b ? 1 : 0;
            case '>' -> a > b ? 1 : 0;
            case '+' -> a + b;
            case '-' -> a - b;
            case '*' -> a * b;
            case '/' -> b == 0 ? 0 : (int) ((long) a / b);
            default -> b == 0 ? 0 : (int) ((long) a % b);
        };
    }

    int gives(int use, int... values) {
        return all.texts[use] == null ? 0 : value(all.texts[use], namesOf(use), values);
    }

    public int text(int use) {
        if (!in(use, 0, 7)) {
            return error(BEYOND);
        }
        String text = all.tape;
        all.tape = "";
        int fault = fault(text, namesOf(use));
        if (fault >= 0) {
            return -10 - fault;
        }
        all.texts[use] = text;
        return 1;
    }

    public int law(int use, int a, int b) {
        return in(use, 0, 7) ? gives(use, a, b, 0, 0, 0) : error(BEYOND);
    }

    public int aim(int place, int at) {
        if (!pl(place) || at < -1 || at >= 0 && (!pl(at / 10) || at / 10 == place || at % 10 > 3)) {
            return error(BEYOND);
        }
        all.aims[place] = at;
        return 1;
    }

    public int live(int n) {
        if (!in(n, 1, 50)) {
            return error(BEYOND);
        }
        if (all.now + n > 399) {
            return error(STATE);
        }
        for (int i = 0; i < n; i++) {
            for (int p = 0; p < all.places; p++) {
                int at = all.aims[p];
                if (at < 0) {
                    continue;
                }
                List<Integer> come = come(p, at % 10, all.now);
                int k = come.isEmpty() ? 9 : all.sent.get(come.get(come.size() - 1)).kind;
                int kind = gives(p, stances(p, at % 10)[all.now], come.size(), k, all.now);
                if (in(kind, 1, 6)) {
                    tryWord(kind, 10 * p + at / 10, at % 10);
                }
            }
            all.now++;
        }
        return all.now;
    }

    public int soon(int ft, int n, int l) {
        if (!ft(ft) || !in(n, 1, 9) || !in(l, 0, 9)) {
            return error(BEYOND);
        }
        if (!find(ft / 10, ft % 10) || all.now + n * bestSum + l > 399) {
            return error(NONE);
        }
        return all.now + n * bestSum + l;
    }

    static long part(BigInteger above, BigInteger below, int part) {
        BigInteger g = above.gcd(below);
        return (part == 0 ? above : below).divide(g).longValueExact();
    }

    BigInteger[] oddsOf(int n, int r) {
        BigInteger below = BigInteger.valueOf(all.q).pow(r);
        BigInteger above = below.subtract(BigInteger.valueOf(all.p).pow(r));
        return new BigInteger[] {above.pow(n), below.pow(n)};
    }

    public long odds(int n, int r, int part) {
        if (!in(n, 1, 4) || !in(r, 1, 4) || !in(part, 0, 1)) {
            return error(BEYOND);
        }
        return part(oddsOf(n, r)[0], oddsOf(n, r)[1], part);
    }

    public int enough(int n, int x) {
        if (!in(n, 1, 4) || !in(x, 0, 100)) {
            return error(BEYOND);
        }
        for (int r = 1; r <= 4; r++) {
            BigInteger[] o = oddsOf(n, r);
            if (o[0].multiply(BigInteger.valueOf(100)).compareTo(o[1].multiply(BigInteger.valueOf(x))) >= 0) {
                return r;
            }
        }
        return error(NONE);
    }

    public int pays(int at, int v) {
        if (!in(at, 0, 79) || at % 10 > 3 || !in(v, -99, 99)) {
            return error(BEYOND);
        }
        int[] row = all.pays[at / 20][at % 20 / 10];
        int was = row[at % 10];
        row[at % 10] = v;
        return was;
    }

    public int rest(int pact) {
        if (!in(pact, 0, 3)) {
            return error(BEYOND);
        }
        int answer = 0;
        int[][] pay = all.pays[pact];
        for (int a = 0; a < 2; a++) {
            for (int b = 0; b < 2; b++) {
                boolean zero = pay[0][2 * (1 - a) + b] > pay[0][2 * a + b];
                boolean one = pay[1][2 * (1 - b) + a] > pay[1][2 * b + a];
                answer += zero || one ? 0 : 1 << (2 * a + b);
            }
        }
        return answer;
    }

    public int answer(int pact, int side, int other) {
        if (!in(pact, 0, 3) || !in(side, 0, 1) || !in(other, 0, 1)) {
            return error(BEYOND);
        }
        int[] pay = all.pays[pact][side];
        return pay[other] >= pay[2 + other] ? 0 : 1;
    }

    public int work(int cost, int worth) {
        if (!in(cost, 0, 999) || !in(worth, 0, 999)) {
            return error(BEYOND);
        }
        if (all.works.size() == 8) {
            return error(FULL);
        }
        all.works.add(new int[] {cost, worth});
        return all.works.size() - 1;
    }

    public int blind(int work, int pq) {
        if (!in(work, 0, all.works.size() - 1) || !in(pq, 0, 99) || pq % 10 == 0 || pq / 10 > pq % 10) {
            return error(BEYOND);
        }
        int[] w = all.works.get(work);
        return w[1] * (pq / 10) > w[0] * (pq % 10) ? 1 : 0;
    }

    public int edge(int work, int q) {
        if (!in(work, 0, all.works.size() - 1) || !in(q, 1, 9)) {
            return error(BEYOND);
        }
        int[] w = all.works.get(work);
        if (w[1] == 0) {
            return error(NONE);
        }
        int p = w[0] * q / w[1] + 1;
        return p <= q ? p : error(NONE);
    }

    public int minds(int rule, int what) {
        if (!in(rule, 0, 1) || !in(what, 0, 1)) {
            return error(BEYOND);
        }
        List<Integer> found = new ArrayList<>();
        for (int i = 0; i < 6 * 6 * 4 * 4 * 5; i++) {
            int e = i % 5 - 2;
            int t = i / 5 % 4;
            int o = i / 20 % 4;
            int b = i / 80 % 6;
            int a = i / 480;
            if (a < b && o != t) {
                int aTakes = gives(6 + rule, o, t, -e, a, b) != 0 ? t : o;
                int bTakes = gives(6 + rule, t, o, e, b, a) != 0 ? o : t;
                if (aTakes != bTakes) {
                    found.add(10000 * a + 1000 * b + 100 * o + 10 * t + e + 2);
                }
            }
        }
        if (what == 0) {
            return found.size();
        }
        return found.isEmpty() ? error(NONE) : found.get(0);
    }

    public long heirs(int n, int cd, int part) {
        if (!in(n, 0, 8) || !in(cd, 0, 66) || !in(cd % 10, 1, 6) || cd / 10 > cd % 10 || !in(part, 0, 1)) {
            return error(BEYOND);
        }
        long c = cd / 10;
        long d = cd % 10;
        long so = 1;
        long otherwise = 0;
        for (int i = 0; i < n; i++) {
            long next = so * (d - c) + otherwise * c;
            otherwise = otherwise * (d - c) + so * c;
            so = next;
        }
        return part(BigInteger.valueOf(so), BigInteger.valueOf(so + otherwise), part);
    }

    public int goods(int ft, int v, int f) {
        if (!ft(ft) || !in(v, 0, 99999) || !in(f, 0, 99)) {
            return error(BEYOND);
        }
        if (!find(ft / 10, ft % 10)) {
            return error(NONE);
        }
        int worth = v;
        for (int i = bestSum * all.speed; i > 0; i--) {
            worth = worth - worth * f / 100;
        }
        return worth;
    }

    public int seed(int v) {
        int was = all.z;
        all.z = v;
        return was;
    }

    // VOICES by Java's own super and overriding
    class Voiced {
        int n;
        int m;

        void began(int body) {
            if (trace.size() < 40) {
                trace.add(body);
            }
        }

        int binds(int x) {
            began(10);
            return x + n;
        }

        int whom(int x) {
            began(11);
            return binds(x) * 2;
        }

        int from(int x) {
            began(12);
            return x - m;
        }

        int tells(int x) {
            began(13);
            return whom(x) ^ from(x);
        }
    }

    class Offer extends Voiced {
        @Override int binds(int x) {
            began(20);
            return super.binds(x) - 2;
        }
    }

    class Yes extends Offer {
        @Override int whom(int x) {
            began(30);
            return super.whom(x) + from(1);
        }

        @Override int binds(int x) {
            began(31);
            return super.binds(x) * 3;
        }
    }

    class Deed extends Voiced {
        @Override int from(int x) {
            began(40);
            return -super.from(x);
        }
    }

    class Back extends Voiced {
        @Override int tells(int x) {
            began(50);
            return binds(2) - super.tells(x);
        }
    }

    class Firm extends Deed {
        @Override int from(int x) {
            began(60);
            return super.from(x + 1);
        }

        @Override int whom(int x) {
            began(61);
            return super.whom(x) ^ n;
        }
    }

    class Late extends Voiced {
        @Override int binds(int x) {
            began(70);
            return super.binds(x) + m;
        }

        @Override int tells(int x) {
            began(71);
            return super.tells(x) * 5;
        }
    }

    public int voice(int word, int act, int x) {
        if (!isWord(word) || !in(act, 0, 3)) {
            return error(BEYOND);
        }
        trace.clear();
        Voiced v = switch (all.sent.get(word).kind) {
            case 1 -> new Offer();
            case 2 -> new Yes();
            case 3 -> new Deed();
            case 4 -> new Back();
            case 5 -> new Firm();
            case 6 -> new Late();
            default -> new Voiced();
        };
        v.n = word;
        v.m = all.sent.get(word).term;
        return act == 0 ? v.binds(x) : act == 1 ? v.whom(x) : act == 2 ? v.from(x) : v.tells(x);
    }

    public int trace(int i) {
        return in(i, 0, trace.size() - 1) ? trace.get(i) : error(NONE);
    }

    public int sheet(int sheet, int b, int n) {
        if (!in(sheet, 0, 3) || !List.of(0, 8, 16, 32).contains(b)) {
            return error(BEYOND);
        }
        if (b != 0 && n < 0) {
            return error(STATE);
        }
        if (b != 0 && n > 40) {
            return error(BEYOND);
        }
        bits[sheet] = b;
        rows[sheet] = b == 0 ? null : new long[n];
        return 1;
    }

    public int put(int sheet, int i, int v) {
        if (!in(sheet, 0, 3)) {
            return error(BEYOND);
        }
        if (rows[sheet] == null) {
            return error(NONE);
        }
        if (!in(i, 0, rows[sheet].length - 1)) {
            return error(BEYOND);
        }
        rows[sheet][i] = v & ((1L << bits[sheet]) - 1);
        return 1;
    }

    public int move(int sheet, int i, int other, int j, int n) {
        if (!in(sheet, 0, 3) || !in(other, 0, 3)) {
            return error(BEYOND);
        }
        if (rows[sheet] == null || rows[other] == null) {
            return error(NONE);
        }
        if (bits[sheet] != bits[other]) {
            return error(KIND);
        }
        if (n < 0 || i < 0 || j < 0 || (long) i + n > rows[sheet].length || (long) j + n > rows[other].length) {
            return error(BEYOND);
        }
        long[] were = Arrays.copyOfRange(rows[sheet], i, i + n);
        for (int k = 0; k < n; k++) {
            rows[other][j + k] = were[k];
        }
        return n;
    }

    public int image() {
        image = all.copy();
        return ++images;
    }

    public int restore() {
        if (image == null) {
            return error(NONE);
        }
        all = image.copy();
        return all.now;
    }

    public int tell(int v) {
        if (all.waiting.size() == 20) {
            return error(FULL);
        }
        all.waiting.add(v);
        return all.waiting.size();
    }

    public int check(int place, int pact) {
        List<Integer> told = all.waiting;
        all.waiting = new ArrayList<>();
        if (!pl(place) || !in(pact, 0, 3)) {
            return error(BEYOND);
        }
        List<Integer> due = come(place, pact, all.now);
        for (int i = 0; i < Math.max(due.size(), told.size()); i++) {
            if (i >= due.size() || i >= told.size() || !due.get(i).equals(told.get(i))) {
                return 1 + i;
            }
        }
        return 0;
    }

    public int count(int what) {
        if (!in(what, 0, 8)) {
            return error(BEYOND);
        }
        int lost = 0;
        for (boolean l : all.lost) {
            lost += l ? 1 : 0;
        }
        int[] answers = {all.now, all.places, all.sent.size(), lost, all.works.size(), all.tape.length(),
            all.waiting.size(), trace.size(), all.z};
        return answers[what];
    }

    public int told(int k) {
        return in(k, 1, 5) ? told[k] : error(BEYOND);
    }
}
