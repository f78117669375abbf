import java.lang.reflect.Method;

/** A call with its arguments, which can be made on any object. */
record Call(String name, Method method, Object[] args) {
    /** Reads "way(0, 1)". */
    static Call read(String text) {
        if (text.indexOf('(') < 0 || !text.endsWith(")")) {
            throw new IllegalArgumentException("no call: " + text);
        }
        String name = text.substring(0, text.indexOf('('));
        String inside = text.substring(text.indexOf('(') + 1, text.length() - 1).strip();
        String[] texts = inside.isEmpty() ? new String[0] : inside.split(",");
        for (Method method : NineYears.class.getMethods()) {
            if (method.getName().equals(name) && method.getParameterCount() == texts.length) {
                Object[] args = new Object[texts.length];
                for (int i = 0; i < args.length; i++) {
                    long number = number(texts[i].strip());
                    if (method.getParameterTypes()[i] == int.class) {
                        args[i] = Math.toIntExact(number);
                    } else {
                        args[i] = number;
                    }
                }
                return new Call(name, method, args);
            }
        }
        throw new IllegalArgumentException("no such method: " + text);
    }

    static long number(String text) {
        switch (text) {
            case "BEYOND": return -1000001;
            case "NONE": return -1000002;
            case "STATE": return -1000003;
            case "FULL": return -1000004;
            case "KIND": return -1000005;
            case "MAX": return Integer.MAX_VALUE;
            case "MIN": return Integer.MIN_VALUE;
            default: return Long.parseLong(text);
        }
    }

    /** The answer; what is thrown, which nothing in NineYears may do, ends the test. */
    long on(NineYears years) {
        try {
            return ((Number) method.invoke(years, args)).longValue();
        } catch (ReflectiveOperationException e) {
            throw new IllegalStateException(name + " threw " + e.getCause(), e);
        }
    }
}
