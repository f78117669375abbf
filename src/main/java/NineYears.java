import java.util.Arrays;

/** Places whose words are years under way; ../shared/DOC.md promises what each call answers. */
public final class NineYears {
    private static final int LOW = -1000000;
    private static final int BEYOND = 1;
    private static final int NONE = 2;
    private static final int STATE = 3;
    private static final int FULL = 4;
    private static final int KIND = 5;

    private static final int LAST_YEAR = 399;
    private static final int PLACES = 6;
    private static final int PACTS = 4;
    private static final int LETTERS = 80;
    private static final int WORKS = 8;
    private static final int USES = 8;
    private static final int FIRST_RULE = 6;
    private static final int TAPE = 50;
    private static final int WAITING = 20;
    private static final int SHEETS = 4;
    private static final int NUMBERS = 40;

    private static final int WORD = 0;
    private static final int OFFER = 1;
    private static final int YES = 2;
    private static final int DEED = 3;
    private static final int BACK = 4;
    private static final int FIRM = 5;
    private static final int LATE = 6;
    private static final int[] KIND_ABOVE = {-1, WORD, OFFER, WORD, WORD, DEED, WORD};

    private final int[] refused;
    private final World world;
    private final World kept;
    private int images;
    private final Standing standing;
    private final Standing otherStanding;
    private final Reader reader;
    private final int[] names;
    private final int[] stack;
    private final Voices voices;
    private final Sheet[] sheets;

    public NineYears() {
        refused = new int[KIND + 1];
        world = new World();
        kept = new World();
        images = 0;
        standing = new Standing(world.letters);
        otherStanding = new Standing(world.letters);
        reader = new Reader();
        names = new int[5];
        stack = new int[TAPE];
        voices = new Voices();
        sheets = new Sheet[SHEETS];
        for (int i = 0; i < SHEETS; i++) {
            sheets[i] = new Sheet();
        }
    }

    // ---- places, words

    public int place() {
        Roads roads = world.roads;
        if (roads.places >= PLACES) {
            return refuse(FULL);
        }
        roads.places++;
        return roads.places - 1;
    }

    public int near(int one, int other, int years) {
        if (!areTwo(one, other) || isOutside(years, 0, 30)) {
            return refuse(BEYOND);
        }
        return world.roads.join(one, other, years);
    }

    public int way(int one, int other) {
        if (!isPlace(one) || !isPlace(other)) {
            return refuse(BEYOND);
        }
        int years = world.roads.years(one, other);
        return years < 0 ? refuse(NONE) : years;
    }

    public int route(int one, int other, int i) {
        if (!isPlace(one) || !isPlace(other) || i < -1) {
            return refuse(BEYOND);
        }
        Roads roads = world.roads;
        if (roads.years(one, other) < 0 || i >= roads.stops(one, other)) {
            return refuse(NONE);
        }
        return i < 0 ? roads.stops(one, other) : roads.stop(one, other, i);
    }

    public int rule(int what, int v) {
        if (what == 0 && !isOutside(v, 0, 99)) {
            int was = world.term;
            world.term = v;
            return was;
        }
        if (what == 1 && !isOutside(v, 2, 9)) {
            int was = world.speed;
            world.speed = v;
            return was;
        }
        return refuse(BEYOND);
    }

    public int loss(int pq) {
        if (!isPart(pq, 9)) {
            return refuse(BEYOND);
        }
        int was = world.lost;
        world.lost = pq;
        return was;
    }

    public int word(int kind, int ft, int pact) {
        int fault = faultOfWord(kind, ft, pact);
        return fault != 0 ? refuse(fault) : world.send(kind, ft / 10, ft % 10, pact);
    }

    public int ofWord(int word, int what) {
        if (!isWord(word)) {
            return refuse(BEYOND);
        }
        Letters letters = world.letters;
        switch (what) {
            case 0: return letters.kinds[word];
            case 1: return letters.froms[word];
            case 2: return letters.tos[word];
            case 3: return letters.pacts[word];
            case 4: return letters.years[word];
            case 5: return letters.comes[word];
            case 6: return letters.terms[word];
            case 7: return letters.depths[word];
            default: return refuse(BEYOND);
        }
    }

    public int lose(int word) {
        if (!isWord(word)) {
            return refuse(BEYOND);
        }
        // A LOST one has -1 as the YEAR in which it COMES, which is never above NOW.
        if (world.letters.comes[word] <= world.now) {
            return refuse(STATE);
        }
        world.letters.drop(word);
        return 1;
    }

    public int as(int word, int kind) {
        if (!isWord(word) || isOutside(kind, WORD, LATE)) {
            return refuse(BEYOND);
        }
        Letters letters = world.letters;
        return isUnder(letters.kinds[word], kind) ? letters.terms[word] : refuse(KIND);
    }

    public int words(int sheet) {
        if (!isSheet(sheet)) {
            return refuse(BEYOND);
        }
        Sheet from = sheets[sheet];
        if (from.bits == 0) {
            return refuse(NONE);
        }
        int many = 0;
        for (int i = 0; i + 2 < from.size; i += 3) {
            int kind = from.numbers[i];
            int ft = from.numbers[i + 1];
            int pact = from.numbers[i + 2];
            if (faultOfWord(kind, ft, pact) != 0) {
                break;
            }
            world.send(kind, ft / 10, ft % 10, pact);
            many++;
        }
        return many;
    }

    public int came(int place, int pact, int year) {
        if (!isPlace(place) || !isPact(pact) || isOutside(year, 0, LAST_YEAR)) {
            return refuse(BEYOND);
        }
        return world.letters.arrived(place, pact, year);
    }

    public int stance(int place, int pact, int year) {
        if (!isPlace(place) || !isPact(pact) || isOutside(year, 0, world.now)) {
            return refuse(BEYOND);
        }
        return standing.standsIn(place, pact, year);
    }

    public int made(int one, int other, int pact) {
        if (!areTwo(one, other) || !isPact(pact)) {
            return refuse(BEYOND);
        }
        int year = firstBound(one, other, pact);
        return year < 0 ? refuse(NONE) : year;
    }

    public int knows(int place, int pact, int year) {
        if (!isPlace(place) || !isPact(pact) || isOutside(year, 0, LAST_YEAR)) {
            return refuse(BEYOND);
        }
        return world.letters.deepest(place, pact, year);
    }

    // ---- texts, years

    public int feed(long word, int n) {
        if (isOutside(n, 1, 8)) {
            return refuse(BEYOND);
        }
        if (world.fed + n > TAPE) {
            return refuse(FULL);
        }
        for (int i = 0; i < n; i++) {
            world.tape[world.fed + i] = (int) (word >>> (8 * i)) & 255;
        }
        world.fed += n;
        return world.fed;
    }

    public int text(int use) {
        if (isOutside(use, 0, USES - 1)) {
            return refuse(BEYOND);
        }
        int fault = reader.read(world.tape, world.fed, use < FIRST_RULE ? "scky" : "otrab");
        world.fed = 0;
        if (fault >= 0) {
            return -10 - fault;
        }
        world.texts[use].become(reader.codes, reader.made);
        return 1;
    }

    public int law(int use, int a, int b) {
        if (isOutside(use, 0, USES - 1)) {
            return refuse(BEYOND);
        }
        nameAll(a, b, 0, 0, 0);
        return world.texts[use].reckon(names, stack);
    }

    public int aim(int place, int at) {
        if (!isPlace(place) || at < -1) {
            return refuse(BEYOND);
        }
        if (at >= 0 && (!areTwo(place, at / 10) || !isPact(at % 10))) {
            return refuse(BEYOND);
        }
        world.aims[place] = at;
        return 1;
    }

    public int live(int n) {
        if (isOutside(n, 1, 50)) {
            return refuse(BEYOND);
        }
        if (world.now + n > LAST_YEAR) {
            return refuse(STATE);
        }
        for (int i = 0; i < n; i++) {
            for (int place = 0; place < world.roads.places; place++) {
                followOrder(place);
            }
            world.now++;
        }
        return world.now;
    }

    // ---- what can be

    public int soon(int ft, int n, int l) {
        if (!isPair(ft) || isOutside(n, 1, 9) || isOutside(l, 0, 9)) {
            return refuse(BEYOND);
        }
        int years = world.roads.years(ft / 10, ft % 10);
        int year = world.now + n * years + l;
        return years < 0 || year > LAST_YEAR ? refuse(NONE) : year;
    }

    public long odds(int n, int r, int part) {
        if (isOutside(n, 1, 4) || isOutside(r, 1, 4) || isOutside(part, 0, 1)) {
            return refuse(BEYOND);
        }
        return oddsPart(n, r, part);
    }

    public int enough(int n, int x) {
        if (isOutside(n, 1, 4) || isOutside(x, 0, 100)) {
            return refuse(BEYOND);
        }
        for (int r = 1; r <= 4; r++) {
            if (oddsPart(n, r, 0) * 100 >= oddsPart(n, r, 1) * x) {
                return r;
            }
        }
        return refuse(NONE);
    }

    public int pays(int at, int v) {
        if (isOutside(at, 0, 20 * PACTS - 1) || at % 10 > 3 || isOutside(v, -99, 99)) {
            return refuse(BEYOND);
        }
        int i = payAt(at / 20, at / 10 % 2, at % 10);
        int was = world.pays[i];
        world.pays[i] = v;
        return was;
    }

    public int rest(int pact) {
        if (!isPact(pact)) {
            return refuse(BEYOND);
        }
        int bits = 0;
        for (int pair = 0; pair < 4; pair++) {
            int first = pair / 2;
            int second = pair % 2;
            if (gain(pact, 0, first, second) >= 0 && gain(pact, 1, second, first) >= 0) {
                bits |= 1 << pair;
            }
        }
        return bits;
    }

    public int answer(int pact, int side, int other) {
        if (!isPact(pact) || isOutside(side, 0, 1) || isOutside(other, 0, 1)) {
            return refuse(BEYOND);
        }
        return gain(pact, side, 1, other) > 0 ? 1 : 0;
    }

    public int work(int cost, int worth) {
        if (isOutside(cost, 0, 999) || isOutside(worth, 0, 999)) {
            return refuse(BEYOND);
        }
        if (world.works >= WORKS) {
            return refuse(FULL);
        }
        world.costs[world.works] = cost;
        world.worths[world.works] = worth;
        world.works++;
        return world.works - 1;
    }

    public int blind(int work, int pq) {
        if (isOutside(work, 0, world.works - 1) || !isPart(pq, 9)) {
            return refuse(BEYOND);
        }
        return isWorthwhile(work, pq / 10, pq % 10) ? 1 : 0;
    }

    public int edge(int work, int q) {
        if (isOutside(work, 0, world.works - 1) || isOutside(q, 1, 9)) {
            return refuse(BEYOND);
        }
        for (int p = 0; p <= q; p++) {
            if (isWorthwhile(work, p, q)) {
                return p;
            }
        }
        return refuse(NONE);
    }

    public int minds(int rule, int what) {
        if (isOutside(rule, 0, 1) || isOutside(what, 0, 1)) {
            return refuse(BEYOND);
        }
        Text text = world.texts[FIRST_RULE + rule];
        int many = 0;
        for (int a = 0; a < PLACES; a++) {
            for (int b = a + 1; b < PLACES; b++) {
                for (int numbers = 0; numbers < 16; numbers++) {
                    for (int e = -2; e <= 2; e++) {
                        if (areOfTwoMinds(text, a, b, numbers, e)) {
                            if (what == 1) {
                                return 10000 * a + 1000 * b + 100 * (numbers / 4) + 10 * (numbers % 4) + e + 2;
                            }
                            many++;
                        }
                    }
                }
            }
        }
        return what == 1 ? refuse(NONE) : many;
    }

    public long heirs(int n, int cd, int part) {
        if (isOutside(n, 0, 8) || !isPart(cd, 6) || isOutside(part, 0, 1)) {
            return refuse(BEYOND);
        }
        int c = cd / 10;
        int d = cd % 10;
        long all = power(d, n);
        // Who thinks as the first did is ahead of who does not by this much of all.
        long ahead = power(d - 2 * c, n);
        return lowest(all + ahead, 2 * all, part);
    }

    public int goods(int ft, int v, int f) {
        if (!isPair(ft) || isOutside(v, 0, 99999) || isOutside(f, 0, 99)) {
            return refuse(BEYOND);
        }
        int years = world.roads.years(ft / 10, ft % 10);
        if (years < 0) {
            return refuse(NONE);
        }
        int worth = v;
        for (int i = 0; i < years * world.speed; i++) {
            worth -= worth * f / 100;
        }
        return worth;
    }

    // ---- draws, voices, sheets, images, what is told

    public int seed(int v) {
        int was = world.z;
        world.z = v;
        return was;
    }

    public int voice(int word, int act, int x) {
        if (!isWord(word) || isOutside(act, Voices.BINDS, Voices.TELLS)) {
            return refuse(BEYOND);
        }
        Letters letters = world.letters;
        voices.begin(letters.kinds[word], word, letters.terms[word]);
        return voices.say(letters.kinds[word], act, x, 0);
    }

    public int trace(int i) {
        return isOutside(i, 0, voices.traced - 1) ? refuse(NONE) : voices.bodies[i];
    }

    public int sheet(int sheet, int bits, int n) {
        if (!isSheet(sheet) || bits != 0 && bits != 8 && bits != 16 && bits != 32) {
            return refuse(BEYOND);
        }
        if (bits == 0) {
            sheets[sheet].become(0, 0);
            return 1;
        }
        if (n < 0) {
            return refuse(STATE);
        }
        if (n > NUMBERS) {
            return refuse(BEYOND);
        }
        sheets[sheet].become(bits, n);
        return 1;
    }

    public int put(int sheet, int i, int v) {
        if (!isSheet(sheet)) {
            return refuse(BEYOND);
        }
        Sheet into = sheets[sheet];
        if (into.bits == 0) {
            return refuse(NONE);
        }
        if (isOutside(i, 0, into.size - 1)) {
            return refuse(BEYOND);
        }
        into.numbers[i] = into.cut(v);
        return 1;
    }

    public int move(int sheet, int i, int other, int j, int n) {
        if (!isSheet(sheet) || !isSheet(other)) {
            return refuse(BEYOND);
        }
        Sheet from = sheets[sheet];
        Sheet into = sheets[other];
        if (from.bits == 0 || into.bits == 0) {
            return refuse(NONE);
        }
        if (from.bits != into.bits) {
            return refuse(KIND);
        }
        if (!from.holds(i, n) || !into.holds(j, n)) {
            return refuse(BEYOND);
        }
        System.arraycopy(from.numbers, i, into.numbers, j, n);
        return n;
    }

    public int image() {
        kept.become(world);
        images++;
        return images;
    }

    public int restore() {
        if (images == 0) {
            return refuse(NONE);
        }
        world.become(kept);
        return world.now;
    }

    public int tell(int v) {
        if (world.waits >= WAITING) {
            return refuse(FULL);
        }
        world.waiting[world.waits] = v;
        world.waits++;
        return world.waits;
    }

    public int check(int place, int pact) {
        int waits = world.waits;
        world.waits = 0;
        if (!isPlace(place) || !isPact(pact)) {
            return refuse(BEYOND);
        }
        return firstUnlike(place, pact, waits);
    }

    public int count(int what) {
        switch (what) {
            case 0: return world.now;
            case 1: return world.roads.places;
            case 2: return world.letters.many;
            case 3: return world.letters.many - world.letters.arrivals;
            case 4: return world.works;
            case 5: return world.fed;
            case 6: return world.waits;
            case 7: return voices.traced;
            case 8: return world.z;
            default: return refuse(BEYOND);
        }
    }

    public int told(int k) {
        return isOutside(k, BEYOND, KIND) ? refuse(BEYOND) : refused[k];
    }

    // ---- what the calls share

    private int refuse(int error) {
        refused[error]++;
        return LOW - error;
    }

    private static boolean isOutside(int v, int least, int most) {
        return v < least || v > most;
    }

    private boolean isPlace(int place) {
        return !isOutside(place, 0, world.roads.places - 1);
    }

    private boolean areTwo(int first, int second) {
        return isPlace(first) && isPlace(second) && first != second;
    }

    /** Whether ft is 10 * from and to, of two PLACES. */
    private boolean isPair(int ft) {
        return ft >= 0 && areTwo(ft / 10, ft % 10);
    }

    private static boolean isPact(int pact) {
        return !isOutside(pact, 0, PACTS - 1);
    }

    private boolean isWord(int word) {
        return !isOutside(word, 0, world.letters.many - 1);
    }

    private static boolean isSheet(int sheet) {
        return !isOutside(sheet, 0, SHEETS - 1);
    }

    /** Whether pq is 10 * p and q, with q from 1 to most and p from 0 to q. */
    private static boolean isPart(int pq, int most) {
        return pq >= 0 && !isOutside(pq % 10, 1, most) && pq / 10 <= pq % 10;
    }

    private static boolean isUnder(int kind, int above) {
        int k = kind;
        for (int i = 0; i < KIND_ABOVE.length && k > WORD && k != above; i++) {
            k = KIND_ABOVE[k];
        }
        return k == above;
    }

    /** The ERROR that word() would answer, 0 if none: words() asks without its being told. */
    private int faultOfWord(int kind, int ft, int pact) {
        if (isOutside(kind, WORD, LATE) || !isPair(ft) || !isPact(pact)) {
            return BEYOND;
        }
        if (world.roads.years(ft / 10, ft % 10) < 0) {
            return NONE;
        }
        return world.letters.many >= LETTERS ? FULL : 0;
    }

    /** The first YEAR up to NOW in which both are bound; -1 if there is none. */
    private int firstBound(int first, int second, int pact) {
        standing.begin(first, pact);
        otherStanding.begin(second, pact);
        // Only a WORD that COMES or is sent makes a STANCE 2 or more, so other YEARS need no look.
        for (int i = 0; i <= 2 * LETTERS; i++) {
            int year = Math.min(standing.nextYear(), otherStanding.nextYear());
            if (year > world.now) {
                return -1;
            }
            standing.pass(year);
            otherStanding.pass(year);
            if (standing.isBound() && otherStanding.isBound()) {
                return year;
            }
        }
        return -1;
    }

    private void nameAll(int first, int second, int third, int fourth, int fifth) {
        names[0] = first;
        names[1] = second;
        names[2] = third;
        names[3] = fourth;
        names[4] = fifth;
    }

    private void followOrder(int place) {
        int at = world.aims[place];
        if (at < 0) {
            return;
        }
        int ft = 10 * place + at / 10;
        int pact = at % 10;
        Letters letters = world.letters;
        nameAll(standing.standsIn(place, pact, world.now), letters.arrived(place, pact, world.now),
            letters.latestKind(place, pact, world.now), world.now, 0);
        int kind = world.texts[place].reckon(names, stack);
        if (kind != WORD && faultOfWord(kind, ft, pact) == 0) {
            world.send(kind, place, at / 10, pact);
        }
    }

    private long oddsPart(int n, int r, int part) {
        long all = power(world.lost % 10, r);
        long reached = all - power(world.lost / 10, r);
        return power(lowest(reached, all, part), n);
    }

    private static long power(long base, int n) {
        long product = 1;
        for (int i = 0; i < n; i++) {
            product *= base;
        }
        return product;
    }

    /** What stands above (part 0) or below (1) the line of above / below in lowest terms. */
    private static long lowest(long above, long below, int part) {
        long one = below;
        long other = above;
        // Two steps of this halve the numbers at least, and longs have 63 bits.
        for (int i = 0; i < 128 && other != 0; i++) {
            long left = one % other;
            one = other;
            other = left;
        }
        long measure = Math.max(1, Math.abs(one));
        return (part == 0 ? above : below) / measure;
    }

    private static int payAt(int pact, int side, int does) {
        return 8 * pact + 4 * side + does;
    }

    /** What a side has more by what it does than by doing otherwise. */
    private int gain(int pact, int side, int own, int others) {
        int so = world.pays[payAt(pact, side, 2 * own + others)];
        return so - world.pays[payAt(pact, side, 2 * (1 - own) + others)];
    }

    private boolean isWorthwhile(int work, int p, int q) {
        return world.worths[work] * p > world.costs[work] * q;
    }

    /** numbers: 4 * that of a's offer and that of b's. */
    private boolean areOfTwoMinds(Text text, int a, int b, int numbers, int e) {
        int o = numbers / 4;
        int t = numbers % 4;
        if (o == t) {
            return false;
        }
        nameAll(o, t, -e, a, b);
        boolean aGivesWay = text.reckon(names, stack) != 0;
        nameAll(t, o, e, b, a);
        boolean bGivesWay = text.reckon(names, stack) != 0;
        return aGivesWay == bGivesWay;
    }

    /** 1 and the place of the first number that waits and is not as it has COME; 0 if all are. */
    private int firstUnlike(int place, int pact, int waits) {
        Letters letters = world.letters;
        int seen = 0;
        for (int i = 0; i < letters.arrivals; i++) {
            int word = letters.arriving[i];
            if (letters.comes[word] > world.now) {
                break;
            }
            if (letters.isFor(word, place, pact)) {
                if (seen >= waits || world.waiting[seen] != word) {
                    return 1 + seen;
                }
                seen++;
            }
        }
        return waits > seen ? 1 + seen : 0;
    }

    /** All that an IMAGE keeps. */
    private static final class World {
        final Roads roads = new Roads();
        final Letters letters = new Letters();
        final Text[] texts = new Text[USES];
        final int[] tape = new int[TAPE];
        final int[] aims = new int[PLACES];
        final int[] pays = new int[8 * PACTS];
        final int[] costs = new int[WORKS];
        final int[] worths = new int[WORKS];
        final int[] waiting = new int[WAITING];
        int now = 0;
        int term = 20;
        int speed = 2;
        int lost = 1; // 10 * p and q, as loss() has it
        int z = 1;
        int fed = 0;
        int works = 0;
        int waits = 0;

        World() {
            for (int i = 0; i < USES; i++) {
                texts[i] = new Text();
            }
            Arrays.fill(aims, -1);
        }

        int send(int kind, int from, int to, int pact) {
            z = z * 1103515245 + 12345;
            boolean isLost = (z >>> 8) % Math.max(1, lost % 10) < lost / 10;
            int comes = now + roads.years(from, to) + (kind == LATE ? 2 : 0);
            return letters.add(kind, 10 * from + to, pact, now, isLost ? -1 : comes, term);
        }

        void become(World model) {
            roads.become(model.roads);
            letters.become(model.letters);
            for (int i = 0; i < USES; i++) {
                texts[i].become(model.texts[i].codes, model.texts[i].length);
            }
            System.arraycopy(model.tape, 0, tape, 0, TAPE);
            System.arraycopy(model.aims, 0, aims, 0, PLACES);
            System.arraycopy(model.pays, 0, pays, 0, 8 * PACTS);
            System.arraycopy(model.costs, 0, costs, 0, WORKS);
            System.arraycopy(model.worths, 0, worths, 0, WORKS);
            System.arraycopy(model.waiting, 0, waiting, 0, WAITING);
            now = model.now;
            term = model.term;
            speed = model.speed;
            lost = model.lost;
            z = model.z;
            fed = model.fed;
            works = model.works;
            waits = model.waits;
        }
    }

    /** PLACES, and what is NEAR. */
    private static final class Roads {
        private static final int NO_WAY = 1000000;

        int places = 0;
        private final int[] nears = new int[PLACES * PLACES];
        // 10 * years and the number of steps: the least of these has the least sum and then the fewest PLACES.
        private final int[] lengths = new int[PLACES * PLACES];

        Roads() {
            measure();
        }

        int join(int one, int other, int years) {
            int was = nears[one * PLACES + other];
            nears[one * PLACES + other] = years;
            nears[other * PLACES + one] = years;
            measure();
            return was;
        }

        /** The WAY; -1 if there is none. */
        int years(int one, int other) {
            int length = lengths[one * PLACES + other];
            return length >= NO_WAY ? -1 : length / 10;
        }

        int stops(int one, int other) {
            return lengths[one * PLACES + other] % 10 + 1;
        }

        int stop(int one, int other, int i) {
            int at = one;
            for (int k = 0; k < i; k++) {
                at = nextStop(at, other);
            }
            return at;
        }

        void become(Roads model) {
            places = model.places;
            System.arraycopy(model.nears, 0, nears, 0, PLACES * PLACES);
            System.arraycopy(model.lengths, 0, lengths, 0, PLACES * PLACES);
        }

        private int nextStop(int at, int goal) {
            for (int next = 0; next < PLACES; next++) {
                int rest = lengths[at * PLACES + goal] - lengths[next * PLACES + goal];
                if (next != at && rest == step(at, next)) {
                    return next;
                }
            }
            return goal;
        }

        private int step(int one, int other) {
            if (one == other) {
                return 0;
            }
            int years = nears[one * PLACES + other];
            return years == 0 ? NO_WAY : 10 * years + 1;
        }

        private void measure() {
            for (int i = 0; i < PLACES * PLACES; i++) {
                lengths[i] = step(i / PLACES, i % PLACES);
            }
            for (int by = 0; by < PLACES; by++) {
                for (int i = 0; i < PLACES * PLACES; i++) {
                    int length = lengths[i / PLACES * PLACES + by] + lengths[by * PLACES + i % PLACES];
                    lengths[i] = Math.min(lengths[i], length);
                }
            }
        }
    }

    /** WORDS, by numbers, and those of them that COME, as they do. */
    private static final class Letters {
        int many = 0;
        final int[] kinds = new int[LETTERS];
        final int[] froms = new int[LETTERS];
        final int[] tos = new int[LETTERS];
        final int[] pacts = new int[LETTERS];
        final int[] years = new int[LETTERS];
        final int[] comes = new int[LETTERS]; // -1: LOST
        final int[] terms = new int[LETTERS];
        final int[] depths = new int[LETTERS];
        // Those that are not LOST, by the YEARS in which they COME, of like ones by numbers.
        int arrivals = 0;
        final int[] arriving = new int[LETTERS];

        int add(int kind, int ft, int pact, int year, int comesIn, int term) {
            int word = many;
            if (word >= LETTERS) {
                return -1;
            }
            kinds[word] = kind;
            froms[word] = ft / 10;
            tos[word] = ft % 10;
            pacts[word] = pact;
            years[word] = year;
            comes[word] = comesIn;
            terms[word] = term;
            // What has COME up to NOW stays so: the DEPTH never changes later.
            depths[word] = 1 + deepest(froms[word], pact, year);
            many++;
            if (comesIn >= 0) {
                queue(word);
            }
            return word;
        }

        void drop(int word) {
            comes[word] = -1;
            int left = 0;
            for (int i = 0; i < arrivals; i++) {
                if (arriving[i] != word) {
                    arriving[left] = arriving[i];
                    left++;
                }
            }
            arrivals = left;
        }

        boolean isFor(int word, int place, int pact) {
            return tos[word] == place && pacts[word] == pact;
        }

        boolean isBy(int word, int place, int pact) {
            return froms[word] == place && pacts[word] == pact;
        }

        int arrived(int place, int pact, int year) {
            int found = 0;
            for (int i = 0; i < arrivals && comes[arriving[i]] <= year; i++) {
                if (isFor(arriving[i], place, pact)) {
                    found++;
                }
            }
            return found;
        }

        int deepest(int place, int pact, int year) {
            int depth = 0;
            for (int i = 0; i < arrivals && comes[arriving[i]] <= year; i++) {
                if (isFor(arriving[i], place, pact)) {
                    depth = Math.max(depth, depths[arriving[i]]);
                }
            }
            return depth;
        }

        int latestKind(int place, int pact, int year) {
            int kind = 9;
            for (int i = 0; i < arrivals && comes[arriving[i]] <= year; i++) {
                if (isFor(arriving[i], place, pact)) {
                    kind = kinds[arriving[i]];
                }
            }
            return kind;
        }

        /** The last YEAR in which a WORD isn't over. */
        int lastYear(int word) {
            return years[word] + terms[word];
        }

        void become(Letters model) {
            many = model.many;
            arrivals = model.arrivals;
            System.arraycopy(model.kinds, 0, kinds, 0, LETTERS);
            System.arraycopy(model.froms, 0, froms, 0, LETTERS);
            System.arraycopy(model.tos, 0, tos, 0, LETTERS);
            System.arraycopy(model.pacts, 0, pacts, 0, LETTERS);
            System.arraycopy(model.years, 0, years, 0, LETTERS);
            System.arraycopy(model.comes, 0, comes, 0, LETTERS);
            System.arraycopy(model.terms, 0, terms, 0, LETTERS);
            System.arraycopy(model.depths, 0, depths, 0, LETTERS);
            System.arraycopy(model.arriving, 0, arriving, 0, LETTERS);
        }

        private void queue(int word) {
            int at = arrivals;
            for (int i = arrivals; i > 0 && comes[arriving[i - 1]] > comes[word]; i--) {
                arriving[i] = arriving[i - 1];
                at = i - 1;
            }
            arriving[at] = word;
            arrivals++;
        }
    }

    /** A STANCE of a PLACE about a PACT as YEARS go by. */
    private static final class Standing {
        private static final int FREE = 0;
        private static final int OFFERS = 1;
        private static final int BOUND = 2;
        private static final int HAS_BEGUN = 3;
        private static final int NEVER = 1000000;

        private final Letters letters;
        private final int[] offeredUpTo; // by the PLACE from which OFFERS came: the last YEAR of these
        private int place;
        private int pact;
        private int stands;
        private int offersUpTo; // the last YEAR of the WORD by which it offers
        private int nextArrival;
        private int nextSent;

        Standing(Letters all) {
            letters = all;
            offeredUpTo = new int[PLACES];
        }

        void begin(int ofPlace, int aboutPact) {
            place = ofPlace;
            pact = aboutPact;
            stands = FREE;
            offersUpTo = -1;
            nextArrival = 0;
            nextSent = 0;
            Arrays.fill(offeredUpTo, -1);
            seek();
        }

        int standsIn(int ofPlace, int aboutPact, int year) {
            begin(ofPlace, aboutPact);
            for (int i = 0; i <= 2 * LETTERS; i++) {
                int next = nextYear();
                if (next > year) {
                    break;
                }
                pass(next);
            }
            endOver(year);
            return stands;
        }

        boolean isBound() {
            return stands >= BOUND;
        }

        /** The next YEAR in which a WORD COMES to it or is sent by it, NEVER if there is none. */
        int nextYear() {
            int comes = hasArrival() ? letters.comes[letters.arriving[nextArrival]] : NEVER;
            int sent = hasSent() ? letters.years[nextSent] : NEVER;
            return Math.min(comes, sent);
        }

        /** A YEAR goes by, none being left out in which a WORD COMES or is sent. */
        void pass(int year) {
            endOver(year);
            for (int i = 0; i < LETTERS && hasArrival(); i++) {
                int word = letters.arriving[nextArrival];
                if (letters.comes[word] > year) {
                    break;
                }
                receive(word);
                nextArrival++;
                seek();
            }
            for (int i = 0; i < LETTERS && hasSent(); i++) {
                if (letters.years[nextSent] > year) {
                    break;
                }
                say(nextSent, year);
                nextSent++;
                seek();
            }
        }

        private boolean hasArrival() {
            return nextArrival < letters.arrivals;
        }

        private boolean hasSent() {
            return nextSent < letters.many;
        }

        /** On to the next WORDS that are about its PACT and to it, or by it. */
        private void seek() {
            while (nextArrival < letters.arrivals && !letters.isFor(letters.arriving[nextArrival], place, pact)) {
                nextArrival++;
            }
            while (nextSent < letters.many && !letters.isBy(nextSent, place, pact)) {
                nextSent++;
            }
        }

        private void endOver(int year) {
            if (stands == OFFERS && year > offersUpTo) {
                stands = FREE;
            }
        }

        private void receive(int word) {
            int kind = letters.kinds[word];
            if (kind == OFFER || kind == YES) {
                int from = letters.froms[word];
                offeredUpTo[from] = Math.max(offeredUpTo[from], letters.lastYear(word));
            }
            if (kind == YES && stands == OFFERS) {
                stands = BOUND;
            }
            if (kind == BACK) {
                giveUp();
            }
        }

        private void say(int word, int year) {
            switch (letters.kinds[word]) {
                case OFFER:
                    propose(word);
                    break;
                case YES:
                    if (stands <= OFFERS && offeredUpTo[letters.tos[word]] >= year) {
                        stands = BOUND;
                    } else {
                        propose(word);
                    }
                    break;
                case DEED:
                    if (stands == BOUND) {
                        stands = HAS_BEGUN;
                    }
                    break;
                case BACK:
                    giveUp();
                    break;
                case FIRM:
                    stands = HAS_BEGUN;
                    break;
                default:
                    break;
            }
        }

        private void propose(int word) {
            if (stands == FREE) {
                stands = OFFERS;
                offersUpTo = letters.lastYear(word);
            }
        }

        private void giveUp() {
            if (stands == OFFERS || stands == BOUND) {
                stands = FREE;
            }
        }
    }

    /** A TEXT: numbers, NAMES and signs, each sign behind what it joins. */
    private static final class Text {
        static final int FIRST_NAME = 10000; // above every NUMBER

        final int[] codes = new int[TAPE];
        int length = 0;

        void become(int[] model, int many) {
            System.arraycopy(model, 0, codes, 0, many);
            length = many;
        }

        /** What it gives; 0 without a TEXT. */
        int reckon(int[] names, int[] stack) {
            stack[0] = 0;
            int top = 0;
            for (int i = 0; i < length; i++) {
                int code = codes[i];
                if (code >= 0 && top < stack.length) {
                    stack[top] = valueOf(code, names);
                    top++;
                } else if (code == -'!' && top > 0) {
                    stack[top - 1] = stack[top - 1] == 0 ? 1 : 0;
                } else if (top > 1) {
                    top--;
                    stack[top - 1] = join(-code, stack[top - 1], stack[top]);
                }
            }
            return stack[0];
        }

        private static int valueOf(int code, int[] names) {
            int name = code - FIRST_NAME;
            if (name < 0) {
                return code;
            }
            return name < names.length ? names[name] : 0;
        }

        private static int join(int sign, int left, int right) {
            switch (sign) {
                case '|': return left != 0 || right != 0 ? 1 : 0;
                case '&': return left != 0 && right != 0 ? 1 : 0;
                case '<': return left < right ? 1 : 0;
                case '=': return left == right ? 1 : 0;
                case '>': return left > right ? 1 : 0;
                case '+': return left + right;
                case '-': return left - right;
                case '*': return left * right;
                case '/': return right == 0 ? 0 : left / right;
                case '%': return right == 0 ? 0 : left % right;
                default: return 0;
            }
        }
    }

    /** Reads THE TAPE as the codes of a TEXT. */
    private static final class Reader {
        private static final int LEVELS = 5;
        private static final int COMPARING = 2;
        private static final int MOST_OPEN = 5;
        private static final int MOST_DIGITS = 4;

        final int[] codes = new int[TAPE];
        int made;
        private int[] tape;
        private int length;
        private int at;
        private String names;

        Reader() {
            tape = codes;
            names = "";
        }

        /** The FAULT; -1 if there is none. */
        int read(int[] bytes, int many, String itsNames) {
            tape = bytes;
            length = many;
            names = itsNames;
            at = 0;
            made = 0;
            return readLevel(0, 0) && at == length ? -1 : at;
        }

        private static String signsOf(int level) {
            switch (level) {
                case 0: return "|";
                case 1: return "&";
                case COMPARING: return "<=>";
                case 3: return "+-";
                default: return "*/%";
            }
        }

        private boolean readLevel(int level, int open) {
            if (level >= LEVELS) {
                return readUnit(open);
            }
            if (!readLevel(level + 1, open)) {
                return false;
            }
            int most = level == COMPARING ? 1 : TAPE;
            for (int i = 0; i < most && signsOf(level).indexOf(next()) >= 0; i++) {
                char sign = next();
                at++;
                if (!readLevel(level + 1, open)) {
                    return false;
                }
                add(-sign);
            }
            return true;
        }

        private boolean readUnit(int open) {
            char sign = next();
            if (isDigit(sign)) {
                readNumber();
                return true;
            }
            int name = names.indexOf(sign);
            if (name >= 0) {
                at++;
                add(Text.FIRST_NAME + name);
                return true;
            }
            if (sign != '!' && sign != '(' || open >= MOST_OPEN) {
                return false;
            }
            at++;
            return sign == '!' ? readNot(open + 1) : readInside(open + 1);
        }

        private boolean readNot(int open) {
            if (!readUnit(open)) {
                return false;
            }
            add(-'!');
            return true;
        }

        private boolean readInside(int open) {
            if (!readLevel(0, open) || next() != ')') {
                return false;
            }
            at++;
            return true;
        }

        private void readNumber() {
            int number = 0;
            for (int i = 0; i < MOST_DIGITS && isDigit(next()); i++) {
                number = 10 * number + next() - '0';
                at++;
            }
            add(number);
        }

        private static boolean isDigit(char sign) {
            return sign >= '0' && sign <= '9';
        }

        /** The byte that comes next; behind the last one a 0, with which no TEXT goes on either. */
        private char next() {
            return at < length && at < tape.length ? (char) tape[at] : (char) 0;
        }

        private void add(int code) {
            if (made < codes.length) {
                codes[made] = code;
                made++;
            }
        }
    }

    /** VOICES of a WORD, and THE TRACE. */
    private static final class Voices {
        static final int BINDS = 0;
        static final int WHOM = 1;
        static final int FROM = 2;
        static final int TELLS = 3;
        private static final int ACTS = 4;
        private static final int TRACED = 40;
        private static final int DEEPEST = 30;
        // By KINDS, and in these by acts; 0: it has no BODY of its own.
        private static final int[] BODIES = {
            10, 11, 12, 13,
            20, 0, 0, 0,
            31, 30, 0, 0,
            0, 0, 40, 0,
            0, 0, 0, 50,
            0, 61, 60, 0,
            70, 0, 0, 71
        };

        final int[] bodies = new int[TRACED];
        int traced = 0;
        private int kind = WORD;
        private int number = 0;
        private int term = 0;

        void begin(int ofKind, int ofNumber, int ofTerm) {
            kind = ofKind;
            number = ofNumber;
            term = ofTerm;
            traced = 0;
        }

        /** The VOICE as a KIND, or the next one above with a BODY, has it. */
        int say(int from, int act, int x, int depth) {
            if (depth > DEEPEST) {
                return 0;
            }
            int body = bodyOf(from, act);
            if (traced < TRACED) {
                bodies[traced] = body;
                traced++;
            }
            return follow(body, x, depth + 1);
        }

        private static int bodyOf(int from, int act) {
            int k = from;
            for (int i = 0; i < KIND_ABOVE.length && k > WORD && BODIES[k * ACTS + act] == 0; i++) {
                k = KIND_ABOVE[k];
            }
            return BODIES[k * ACTS + act];
        }

        private int follow(int body, int x, int depth) {
            switch (body) {
                case 10: return x + number;
                case 11: return say(kind, BINDS, x, depth) * 2;
                case 12: return x - term;
                case 13: return say(kind, WHOM, x, depth) ^ say(kind, FROM, x, depth);
                case 20: return say(WORD, BINDS, x, depth) - 2;
                case 30: return say(OFFER, WHOM, x, depth) + say(kind, FROM, 1, depth);
                case 31: return say(OFFER, BINDS, x, depth) * 3;
                case 40: return -say(WORD, FROM, x, depth);
                case 50: return say(kind, BINDS, 2, depth) - say(WORD, TELLS, x, depth);
                case 60: return say(DEED, FROM, x + 1, depth);
                case 61: return say(DEED, WHOM, x, depth) ^ number;
                case 70: return say(WORD, BINDS, x, depth) + term;
                case 71: return say(WORD, TELLS, x, depth) * 5;
                default: return 0;
            }
        }
    }

    /** A row of numbers of 8, 16 or 32 bits; of 0: it is missing. */
    private static final class Sheet {
        int bits = 0;
        int size = 0;
        final int[] numbers = new int[NUMBERS];

        void become(int itsBits, int itsSize) {
            bits = itsBits;
            size = itsSize;
            Arrays.fill(numbers, 0);
        }

        int cut(int v) {
            return bits == 8 ? (byte) v : bits == 16 ? (short) v : v;
        }

        boolean holds(int i, int n) {
            return i >= 0 && n >= 0 && n <= size && i <= size - n;
        }
    }
}
