import java.io.DataInputStream;
import java.io.IOException;
import java.io.InputStream;
import java.util.ArrayList;
import java.util.List;
import java.util.Set;
import java.util.TreeSet;
import java.util.regex.Pattern;

/** What the compiled classes call outside of themselves: the list of rule 4 of LANGUAGE.md and no more. */
public final class LibraryTest {
    private static final Set<Pattern> ALLOWED = Set.of(
        Pattern.compile("java/lang/Object\\.<init>"),
        Pattern.compile("java/lang/String\\.(length|charAt|isEmpty|equals|indexOf|substring|toCharArray|<init>)"),
        Pattern.compile("java/lang/StringBuilder\\.(<init>|append|charAt|setCharAt|setLength|deleteCharAt|reverse|length|toString)"),
        Pattern.compile("java/util/(ArrayList|List)\\.(<init>|add|get|set|remove|size|isEmpty|clear|iterator|of)"),
        Pattern.compile("java/lang/(Integer|Long|Math)\\.(?!\\w*Exact$)\\w+"),
        Pattern.compile("java/lang/System\\.arraycopy"),
        Pattern.compile("java/util/Arrays\\.(copyOf|copyOfRange|fill)"));

    private LibraryTest() { }

    public static void main(String[] args) throws IOException {
        List<Class<?>> classes = new ArrayList<>(List.of(NineYears.class.getDeclaredClasses()));
        classes.add(NineYears.class);
        Set<String> called = new TreeSet<>();
        for (Class<?> c : classes) {
            try (InputStream bytes = NineYears.class.getResourceAsStream(c.getName() + ".class")) {
                called.addAll(callsOf(new DataInputStream(bytes)));
            }
        }
        int wrong = 0;
        for (String call : called) {
            if (ALLOWED.stream().noneMatch(allowed -> allowed.matcher(call).matches())) {
                wrong++;
                System.out.println("not on the list: " + call);
            }
        }
        System.out.println(called.size() + " functions of the library are called, " + wrong + " of them not on the list");
        if (wrong != 0 || called.isEmpty()) {
            System.exit(1);
        }
    }

    /** The members of other classes that a class file names in its table of constants. */
    private static Set<String> callsOf(DataInputStream in) throws IOException {
        in.readInt();
        in.readInt();
        int many = in.readUnsignedShort();
        String[] texts = new String[many];
        int[] first = new int[many];
        int[] second = new int[many];
        List<Integer> members = new ArrayList<>();
        Set<String> calls = new TreeSet<>();
        for (int i = 1; i < many; i++) {
            int tag = in.readUnsignedByte();
            switch (tag) {
                case 1: texts[i] = in.readUTF(); break;
                case 3, 4: in.readInt(); break;
                // A long or a double takes two places of the table.
                case 5, 6: in.readLong(); i++; break;
                case 7, 8, 16, 19, 20: first[i] = in.readUnsignedShort(); break;
                case 9, 10, 11, 12, 17, 18:
                    first[i] = in.readUnsignedShort();
                    second[i] = in.readUnsignedShort();
                    if (tag >= 9 && tag <= 11) {
                        members.add(i);
                    }
                    if (tag >= 17) {
                        calls.add("invokedynamic");
                    }
                    break;
                case 15: in.readUnsignedByte(); in.readUnsignedShort(); break;
                default: throw new IOException("no such tag: " + tag);
            }
        }
        for (int member : members) {
            String owner = texts[first[first[member]]];
            if (!owner.startsWith("NineYears") && !owner.startsWith("[")) {
                calls.add(owner + "." + texts[first[second[member]]]);
            }
        }
        return calls;
    }
}
