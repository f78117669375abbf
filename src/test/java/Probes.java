import java.util.ArrayList;
import java.util.List;

/** Questions that show, all together, all that an object holds (but what told() tells), at most 160 calls each. */
final class Probes {
    static final int MANY = 7;

    private final NineYears years;
    private final List<String> answers = new ArrayList<>();

    private Probes(NineYears years) {
        this.years = years;
    }

    static List<String> ask(int probe, NineYears years) {
        Probes probes = new Probes(years);
        switch (probe) {
            case 0: probes.counts(); break;
            case 1: probes.words(); break;
            case 2: probes.stances(); break;
            case 3: probes.laws(); break;
            case 4: probes.sheets(); break;
            case 5: probes.orders(); break;
            default: probes.image(); break;
        }
        return probes.answers;
    }

    private void add(String call, long answer) {
        answers.add(call + " = " + answer);
    }

    private void counts() {
        for (int what = 0; what <= 8; what++) {
            add("count(" + what + ")", years.count(what));
        }
        for (int one = 0; one < 6; one++) {
            for (int other = one + 1; other < 6; other++) {
                add("way(" + one + ", " + other + ")", years.way(one, other));
                add("near(" + one + ", " + other + ", 0)", years.near(one, other, 0));
            }
        }
        for (int i = 0; i < 12; i++) {
            add("trace(" + i + ")", years.trace(i));
        }
        add("check(1, 0)", years.check(1, 0));
        add("text(5)", years.text(5));
        add("law(5, 7, 3)", years.law(5, 7, 3));
    }

    private void words() {
        for (int word = 0; word < 10; word++) {
            ofWord(word);
        }
        ofWord(78);
        ofWord(79);
    }

    private void ofWord(int word) {
        for (int what = 0; what < 8; what++) {
            add("ofWord(" + word + ", " + what + ")", years.ofWord(word, what));
        }
    }

    private void stances() {
        int now = years.count(0);
        for (int place = 0; place < 6; place++) {
            for (int pact = 0; pact < 4; pact++) {
                String at = "(" + place + ", " + pact + ", ";
                add("stance" + at + now + ")", years.stance(place, pact, now));
                add("came" + at + "399)", years.came(place, pact, 399));
                add("knows" + at + "399)", years.knows(place, pact, 399));
                add("made(0" + at.substring(1), years.made(0, place, pact));
                add("made(1" + at.substring(1), years.made(1, place, pact));
            }
        }
    }

    private void laws() {
        for (int use = 0; use < 8; use++) {
            add("law(" + use + ", 3, -2)", years.law(use, 3, -2));
            add("law(" + use + ", 0, 9)", years.law(use, 0, 9));
            add("minds", years.minds(use % 2, use / 2 % 2));
        }
        for (int work = 0; work < 8; work++) {
            add("edge(" + work + ", 9)", years.edge(work, 9));
            add("edge(" + work + ", 8)", years.edge(work, 8));
            add("blind(" + work + ", 89)", years.blind(work, 89));
        }
        for (int at = 0; at < 80; at += at % 10 == 3 ? 7 : 1) {
            add("pays(" + at + ", 0)", years.pays(at, 0));
        }
        add("rule(0, 20)", years.rule(0, 20));
        add("rule(1, 2)", years.rule(1, 2));
        add("loss(1)", years.loss(1));
        add("seed(1)", years.seed(1));
    }

    private void sheets() {
        // What a SHEET holds shows in the WORDS from it alone: they need a WAY.
        years.near(0, 1, 1);
        years.loss(1);
        for (int sheet = 0; sheet < 4; sheet++) {
            for (int other = 0; other < 4; other++) {
                add("move(" + sheet + ", 0, " + other + ", 0, 0)", years.move(sheet, 0, other, 0, 0));
            }
            int first = years.count(2);
            add("words(" + sheet + ")", years.words(sheet));
            for (int word = first; word < years.count(2) && word < first + 4; word++) {
                add("ofWord(" + word + ", 0)", years.ofWord(word, 0));
                add("ofWord(" + word + ", 1)", years.ofWord(word, 1));
                add("ofWord(" + word + ", 3)", years.ofWord(word, 3));
            }
            for (int i = 0; i < 40; i += i < 10 ? 1 : 29) {
                add("put(" + sheet + ", " + i + ", 0)", years.put(sheet, i, 0));
            }
        }
    }

    private void orders() {
        int first = years.count(2);
        add("live(3)", years.live(3));
        for (int word = first; word < years.count(2) && word < first + 12; word++) {
            ofWord(word);
        }
        add("count(8)", years.count(8));
    }

    private void image() {
        add("restore()", years.restore());
        for (int what = 0; what <= 8; what++) {
            add("then count(" + what + ")", years.count(what));
        }
        for (int word = 0; word < 4; word++) {
            ofWord(word);
        }
        for (int use = 0; use < 8; use++) {
            add("then law(" + use + ", 3, -2)", years.law(use, 3, -2));
        }
        add("then rule(0, 20)", years.rule(0, 20));
        add("image()", years.image());
    }
}
