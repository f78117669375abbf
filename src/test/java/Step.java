import java.util.List;

/** A line of a Script: a call and the answer that is due. */
record Step(String text, Call call, long due, boolean isError, boolean isFree) {
    /** Whether an answer is the one that is due; a free one need only be no ERROR. */
    boolean isDue(long got) {
        return isFree ? got > -1000000 : got == due;
    }

    /** Adds what a line says to the steps: none, one or several. */
    static void read(String line, List<Step> steps) {
        if (line.isEmpty() || line.startsWith("#")) {
            return;
        }
        if (line.startsWith("tape(")) {
            readTape(line.substring(5, line.lastIndexOf(')')), steps);
            return;
        }
        int times = 1;
        String text = line;
        if (Character.isDigit(line.charAt(0))) {
            times = Integer.parseInt(line.substring(0, line.indexOf('x')));
            text = line.substring(line.indexOf('x') + 1).strip();
        }
        int end = text.lastIndexOf('=');
        if (end < 0) {
            throw new IllegalArgumentException("no answer is due: " + line);
        }
        String due = text.substring(end + 1).strip();
        boolean isError = due.endsWith("!") || List.of("BEYOND", "NONE", "STATE", "FULL", "KIND").contains(due);
        Call call = Call.read(text.substring(0, end).strip());
        for (int i = 0; i < times; i++) {
            steps.add(new Step(text, call, Call.number(due.replace("!", "")), isError, false));
        }
    }

    private static void readTape(String text, List<Step> steps) {
        for (int at = 0; at < text.length(); at += 8) {
            int n = Math.min(8, text.length() - at);
            long word = 0;
            for (int i = n - 1; i >= 0; i--) {
                word = word << 8 | text.charAt(at + i) & 255;
            }
            steps.add(new Step("tape(" + text + ")", Call.read("feed(" + word + ", " + n + ")"), 0, false, true));
        }
    }
}
