import java.io.IOException;
import java.lang.reflect.Field;
import java.lang.reflect.Member;
import java.lang.reflect.Method;
import java.lang.reflect.Modifier;
import java.nio.file.Files;
import java.nio.file.Path;
import java.util.ArrayList;
import java.util.HashSet;
import java.util.List;
import java.util.Set;
import java.util.TreeSet;
import java.util.regex.Matcher;
import java.util.regex.Pattern;

/** The public face, and those rules of LANGUAGE.md that can be seen from the outside or in the text. */
public final class LanguageTest {
    private static final Pattern METHOD = Pattern.compile("    public (int|long) (\\w+)\\((.*)\\);");
    private static final Pattern ARGUMENT = Pattern.compile("(int|long) \\w+");
    private static final Set<String> WORDS_OUT = Set.of("throw", "throws", "try", "catch", "finally", "synchronized",
        "assert", "volatile", "transient", "native", "protected", "hashCode", "double", "float", "Object", "Thread");
    private static final Set<Class<?>> CONSTANTS = Set.of(int.class, long.class, boolean.class, char.class, String.class,
        int[].class, long[].class, char[].class, byte[].class);

    private static int wrong = 0;

    private LanguageTest() { }

    private static void due(boolean holds, String what) {
        if (!holds) {
            wrong++;
            System.out.println("not so: " + what);
        }
    }

    public static void main(String[] args) throws IOException {
        face();
        List<Class<?>> classes = new ArrayList<>(List.of(NineYears.class.getDeclaredClasses()));
        due(classes.size() + 1 <= 12, "at most some twelve classes");
        for (Class<?> c : classes) {
            due(Modifier.isStatic(c.getModifiers()) && !Modifier.isPublic(c.getModifiers()), c + " is static, not public");
            due(c.getDeclaredClasses().length == 0, c + " has no classes inside");
        }
        classes.add(NineYears.class);
        for (Class<?> c : classes) {
            members(c);
        }
        source(Files.readString(Path.of("src/main/java/NineYears.java")));
        System.out.println(wrong == 0 ? "the face and the rules hold" : wrong + " rules do not hold");
        if (wrong != 0) {
            System.exit(1);
        }
    }

    /** The methods of the document's face, as "int near(int, int, int)". */
    private static Set<String> documentsFace() throws IOException {
        Set<String> face = new TreeSet<>();
        Matcher methods = METHOD.matcher(Files.readString(Path.of("../shared/DOC.md")));
        while (methods.find()) {
            String types = ARGUMENT.matcher(methods.group(3)).replaceAll("$1");
            face.add(methods.group(1) + " " + methods.group(2) + "(" + types + ")");
        }
        return face;
    }

    private static void face() throws IOException {
        Set<String> due = documentsFace();
        Set<String> is = new TreeSet<>();
        for (Method m : NineYears.class.getDeclaredMethods()) {
            if (!Modifier.isPrivate(m.getModifiers())) {
                List<String> types = new ArrayList<>();
                for (Class<?> type : m.getParameterTypes()) {
                    types.add(type.getName());
                }
                is.add(m.getReturnType() + " " + m.getName() + "(" + String.join(", ", types) + ")");
                due(m.getModifiers() == Modifier.PUBLIC, m + " is public and no more");
            }
        }
        due(due.size() == 44, "44 methods in the document's face, not " + due.size());
        due(is.equals(due), "the face is the document's: " + is);
        for (Field f : NineYears.class.getDeclaredFields()) {
            due(Modifier.isPrivate(f.getModifiers()), f + " is private");
        }
        due(NineYears.class.getDeclaredConstructors().length == 1 && NineYears.class.getConstructors().length == 1,
            "one public constructor");
        due(NineYears.class.getModifiers() == (Modifier.PUBLIC | Modifier.FINAL), "public and final");
    }

    private static void members(Class<?> c) {
        Set<String> faceNames = new HashSet<>();
        for (Method m : NineYears.class.getMethods()) {
            faceNames.add(m.getName());
        }
        int fields = 0;
        for (Field f : c.getDeclaredFields()) {
            if (Modifier.isStatic(f.getModifiers())) {
                due(Modifier.isFinal(f.getModifiers()) && CONSTANTS.contains(f.getType()), f + " is a constant");
            } else {
                fields++;
            }
        }
        due(fields <= 20, c + " has some twenty fields at most, not " + fields);
        List<Member> members = new ArrayList<>(List.of(c.getDeclaredMethods()));
        for (Member member : members) {
            Method m = (Method) member;
            due(m.getParameterCount() <= 7, m + " takes at most seven parameters");
            due(!m.isSynthetic(), m + " is written in the source");
            due(Modifier.isPublic(m.getModifiers()) || !faceNames.contains(m.getName()), m + " has a name of its own");
        }
    }

    private static void source(String source) {
        String code = source.replaceAll("(?s)/\\*.*?\\*/", " ").replaceAll("//[^\n]*", "")
            .replaceAll("'(\\\\.|[^'])'", "' '").replaceAll("\"[^\"\n]*\"", "\"\"");
        Matcher words = Pattern.compile("[A-Za-z_]+").matcher(code);
        while (words.find()) {
            due(!WORDS_OUT.contains(words.group()), "no " + words.group());
        }
        due(!code.contains("->") && !code.contains("::"), "no lambda, no method reference");
        due(!code.matches("(?s).*\\bstatic\\s*\\{.*"), "no static initialiser block");
        due(!code.matches("(?s).*\"\"\\s*\\+.*|(?s).*\\+\\s*\"\".*"), "no texts joined by +");
        due(!code.contains("package "), "no package line");
        due(!code.contains("Exact"), "no function whose name ends in Exact");
        Matcher imports = Pattern.compile("import ([^;]*);").matcher(code);
        while (imports.find()) {
            due(Set.of("java.util.Arrays", "java.util.ArrayList", "java.util.List").contains(imports.group(1)),
                "no import of " + imports.group(1));
        }
        due(source.chars().allMatch(c -> c == '\n' || c >= ' ' && c <= '~'), "plain signs alone");
        methodLengths(source.split("\n"));
    }

    private static void methodLengths(String[] lines) {
        for (int i = 0; i < lines.length; i++) {
            Matcher head = Pattern.compile("( {4}| {8})\\S[^=;]*\\) \\{").matcher(lines[i]);
            if (head.matches()) {
                int end = i;
                while (end < lines.length && !lines[end].equals(head.group(1) + "}")) {
                    end++;
                }
                due(end - i < 60, "a short method: " + lines[i].strip());
            }
        }
    }
}
