import java.util.ArrayList;
import java.util.List;

/**
 * Calls and the answers that are due, a line each: "way(0, 1) = 9". An answer may be BEYOND, NONE,
 * STATE, FULL or KIND, or a number; a number with ! behind it is an ERROR, too. A line of # is a
 * comment; tape(o&lt;t) feeds a text to THE TAPE, as feed() takes it, and has no answer; 3x at the front
 * of a line makes the call three times, each with that answer.
 *
 * <p>Of each line it is also held that told() has gone up as its answer says, and of each ERROR that
 * it has changed nothing else: an object with that call and one without it answer all Probes alike.
 */
final class Script {
    // An object is used for at most 512 calls: this leaves room for the longest of the Probes.
    private static final int MOST_CALLS = 350;

    private static int wrong = 0;
    private static int lines = 0;
    private static int refusals = 0;
    private static final List<String[]> QUOTES = new ArrayList<>();

    private Script() { }

    /** Runs a script on a new object; its name is a sentence of that section of the document, or a part of one. */
    static void edge(String section, String sentence, String script) {
        QUOTES.add(new String[] {section, sentence});
        run(section + " " + sentence, script);
    }

    /** Runs two scripts as edges: then the objects that they leave must answer all Probes alike. */
    static void alike(String section, String sentence, String script, String other) {
        edge(section, sentence, script);
        edge(section, sentence, other);
        for (int probe = 0; probe < Probes.MANY; probe++) {
            List<Step> steps = read(script);
            List<Step> others = read(other);
            compare(section + " " + sentence, Probes.ask(probe, after(steps, steps.size())),
                Probes.ask(probe, after(others, others.size())));
        }
    }

    /** The sections and sentences of all edges so far. */
    static List<String[]> quotes() {
        return QUOTES;
    }

    /** Runs a script on a new object. */
    static void run(String name, String script) {
        List<Step> steps = read(script);
        if (steps.size() > MOST_CALLS) {
            fail(name, "has " + steps.size() + " calls");
        }
        checkAnswers(name, steps);
        checkTold(name, steps);
        for (int i = 0; i < steps.size(); i++) {
            if (steps.get(i).isError()) {
                refusals++;
                checkNothingElse(name, steps, i);
            }
        }
    }

    private static List<Step> read(String script) {
        List<Step> steps = new ArrayList<>();
        for (String line : script.split("\n")) {
            Step.read(line.strip(), steps);
        }
        return steps;
    }

    /** Ends the test: with exit code 1 if an answer was not the one that is due. */
    static void end() {
        System.out.println(lines + " calls, " + refusals + " of them refused, " + wrong + " not as due");
        if (wrong != 0 || lines == 0) {
            System.exit(1);
        }
    }

    private static void fail(String name, String what) {
        wrong++;
        System.out.println(name + ": " + what);
    }

    private static void checkAnswers(String name, List<Step> steps) {
        NineYears years = new NineYears();
        for (Step step : steps) {
            long got = step.call().on(years);
            lines++;
            if (!step.isDue(got)) {
                fail(name, step.text() + ", but it answered " + got);
            }
        }
    }

    private static void checkTold(String name, List<Step> steps) {
        NineYears years = new NineYears();
        long[] due = new long[6];
        for (Step step : steps) {
            step.call().on(years);
            if (step.isError()) {
                due[(int) (-1000000 - step.due())]++;
            }
            for (int k = 1; k <= 5; k++) {
                if (years.told(k) != due[k]) {
                    fail(name, step.text() + ": then told(" + k + ") is " + years.told(k) + ", due is " + due[k]);
                    due[k] = years.told(k);
                }
            }
        }
    }

    private static void checkNothingElse(String name, List<Step> steps, int at) {
        for (int probe = 0; probe < Probes.MANY; probe++) {
            NineYears without = after(steps, at);
            NineYears with = after(steps, at);
            steps.get(at).call().on(with);
            if (steps.get(at).call().name().equals("check")) {
                // Whatever it answers, none wait then.
                without.check(0, 0);
            }
            compare(name + ": " + steps.get(at).text(), Probes.ask(probe, without), Probes.ask(probe, with));
        }
    }

    private static void compare(String name, List<String> answers, List<String> others) {
        if (!answers.equals(others)) {
            int i = 0;
            while (i < answers.size() && i < others.size() && answers.get(i).equals(others.get(i))) {
                i++;
            }
            fail(name, "not alike: " + answers.subList(i, Math.min(i + 1, answers.size())) + " and "
                + others.subList(i, Math.min(i + 1, others.size())));
        }
    }

    private static NineYears after(List<Step> steps, int end) {
        NineYears years = new NineYears();
        for (int i = 0; i < end; i++) {
            steps.get(i).call().on(years);
        }
        return years;
    }
}
