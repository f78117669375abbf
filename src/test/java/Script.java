import java.lang.reflect.InvocationTargetException;
import java.lang.reflect.Method;

/**
 * Calls and the answers that are due, a line each: "way(0, 1) = 9". An answer may be BEYOND, NONE,
 * STATE, FULL or KIND; a line of # is a comment; tape(o<t) feeds a text to THE TAPE, as feed() takes
 * it, and has no answer; 3x at the front of a line makes the call three times, each with that answer.
 */
final class Script {
    private static int wrong = 0;
    private static int lines = 0;

    private Script() { }

    /** Runs a script on a new object. */
    static void run(String name, String script) {
        NineYears years = new NineYears();
        for (String line : script.split("\n")) {
            String call = line.strip();
            if (!call.isEmpty() && !call.startsWith("#")) {
                try {
                    runLine(years, name, call);
                } catch (ReflectiveOperationException | RuntimeException e) {
                    wrong++;
                    System.out.println(name + ": " + call + " failed: " + e + " " + e.getCause());
                }
            }
        }
    }

    /** Ends the test: with exit code 1 if an answer was not the one that is due. */
    static void end() {
        System.out.println(lines + " calls, " + wrong + " answers not as due");
        if (wrong != 0 || lines == 0) {
            System.exit(1);
        }
    }

    private static void runLine(NineYears years, String name, String line) throws ReflectiveOperationException {
        if (line.startsWith("tape(")) {
            tape(years, line.substring(5, line.lastIndexOf(')')));
            return;
        }
        int times = 1;
        String call = line;
        if (Character.isDigit(line.charAt(0))) {
            times = Integer.parseInt(line.substring(0, line.indexOf('x')));
            call = line.substring(line.indexOf('x') + 1).strip();
        }
        int end = call.lastIndexOf('=');
        long due = number(call.substring(end + 1).strip());
        for (int i = 0; i < times; i++) {
            long got = call(years, call.substring(0, end).strip());
            lines++;
            if (got != due) {
                wrong++;
                System.out.println(name + ": " + call + ", but it answered " + got);
            }
        }
    }

    private static long number(String text) {
        switch (text) {
            case "BEYOND": return -1000001;
            case "NONE": return -1000002;
            case "STATE": return -1000003;
            case "FULL": return -1000004;
            case "KIND": return -1000005;
            case "MAX": return Integer.MAX_VALUE;
            case "MIN": return Integer.MIN_VALUE;
            default: return Long.parseLong(text);
        }
    }

    private static long call(NineYears years, String call) throws ReflectiveOperationException {
        String name = call.substring(0, call.indexOf('('));
        String inside = call.substring(call.indexOf('(') + 1, call.lastIndexOf(')')).strip();
        String[] texts = inside.isEmpty() ? new String[0] : inside.split(",");
        for (Method method : NineYears.class.getMethods()) {
            if (method.getName().equals(name) && method.getParameterCount() == texts.length) {
                return invoke(years, method, texts);
            }
        }
        throw new NoSuchMethodException(call);
    }

    private static long invoke(NineYears years, Method method, String[] texts)
        throws IllegalAccessException, InvocationTargetException {
        Object[] args = new Object[texts.length];
        for (int i = 0; i < args.length; i++) {
            long number = number(texts[i].strip());
            if (method.getParameterTypes()[i] == int.class) {
                args[i] = (int) number;
            } else {
                args[i] = number;
            }
        }
        return ((Number) method.invoke(years, args)).longValue();
    }

    private static void tape(NineYears years, String text) {
        for (int at = 0; at < text.length(); at += 8) {
            int n = Math.min(8, text.length() - at);
            long word = 0;
            for (int i = n - 1; i >= 0; i--) {
                word = word << 8 | text.charAt(at + i) & 255;
            }
            if (years.feed(word, n) < 0) {
                throw new IllegalArgumentException("THE TAPE is full");
            }
        }
    }
}
