import java.io.IOException;
import java.lang.reflect.Constructor;
import java.lang.reflect.Field;
import java.lang.reflect.Method;
import java.lang.reflect.Modifier;
import java.nio.file.Files;
import java.nio.file.Path;
import java.util.ArrayList;
import java.util.List;
import java.util.Set;
import java.util.TreeSet;
import java.util.regex.Matcher;
import java.util.regex.Pattern;

/**
 * What can be seen of ../shared/LANGUAGE.md and of the document's face without a parser:
 * members by reflection, words and lengths by the source.
 */
public final class LanguageTest {
    private static final Path SOURCE = Path.of("src/main/java/PadRound.java");
    private static final Path DOCUMENT = Path.of("../shared/DOC.md");
    private static int wrong = 0;

    private static void must(boolean holds, String what) {
        if (!holds) {
            wrong++;
            System.out.println(what);
        }
    }

    public static void main(String[] args) throws IOException {
        Set<String> publicNames = face();
        members(publicNames);
        String source = Files.readString(SOURCE);
        String code = source.replaceAll("(?s)/\\*.*?\\*/", "").replaceAll("//[^\n]*", "");
        words(code);
        methods(code);
        madeInConstructorsAlone(code);
        System.out.println(wrong == 0 ? "the language is kept" : wrong + " rules are broken");
        System.exit(wrong == 0 ? 0 : 1);
    }

    private static String signature(Class<?> answer, String name, Class<?>[] types) {
        List<String> parts = new ArrayList<>();
        for (Class<?> type : types) {
            parts.add(type.getSimpleName());
        }
        return answer.getSimpleName() + " " + name + "(" + String.join(", ", parts) + ")";
    }

    /** The public members are those of the document, all of them and no other. */
    private static Set<String> face() throws IOException {
        Set<String> due = new TreeSet<>();
        Matcher m = Pattern.compile("public (int|long) (\\w+)\\((.*?)\\);").matcher(Files.readString(DOCUMENT));
        while (m.find()) {
            String types = m.group(3).replaceAll(" \\w+(?=,|$)", "");
            due.add(m.group(1) + " " + m.group(2) + "(" + types + ")");
        }
        Set<String> there = new TreeSet<>();
        Set<String> names = new TreeSet<>();
        for (Method method : PadRound.class.getDeclaredMethods()) {
            if (!Modifier.isPrivate(method.getModifiers())) {
                there.add(signature(method.getReturnType(), method.getName(), method.getParameterTypes()));
                names.add(method.getName());
            }
        }
        must(due.size() == 48, "the document has " + due.size() + " methods");
        must(due.equals(there), "the face is " + there + ", due is " + due);
        must(Modifier.isFinal(PadRound.class.getModifiers()), "the class is not final");
        Constructor<?>[] made = PadRound.class.getDeclaredConstructors();
        must(made.length == 1 && made[0].getParameterCount() == 0, "not the one constructor");
        return names;
    }

    private static void members(Set<String> publicNames) {
        Set<String> constants = Set.of("BAD", "FULL", "FINDING", "STATE", "SPENT", "NONE");
        for (Field field : PadRound.class.getDeclaredFields()) {
            boolean open = !Modifier.isPrivate(field.getModifiers());
            must(open == constants.contains(field.getName()), "field " + field.getName());
        }
        List<Class<?>> classes = new ArrayList<>(List.of(PadRound.class.getDeclaredClasses()));
        must(classes.size() < 12, "too many classes");
        for (Class<?> each : classes) {
            must(Modifier.isStatic(each.getModifiers()), each + " is not static");
        }
        classes.add(PadRound.class);
        for (Class<?> each : classes) {
            int fields = 0;
            for (Field field : each.getDeclaredFields()) {
                fields += Modifier.isStatic(field.getModifiers()) ? 0 : 1;
                must(!Modifier.isStatic(field.getModifiers()) || Modifier.isFinal(field.getModifiers()),
                        "static state: " + field);
            }
            must(fields <= 20, each + " has " + fields + " fields");
            for (Method method : each.getDeclaredMethods()) {
                must(method.getParameterCount() <= 7, method + " takes too many");
                must(each == PadRound.class && !Modifier.isPrivate(method.getModifiers())
                        || !publicNames.contains(method.getName()), method + " bears a public name");
            }
        }
    }

    private static void words(String code) {
        for (String word : List.of("throw", "throws", "try", "catch", "synchronized", "assert", "import", "package",
                "native", "hashCode", "toString", "System.out", "Random", "->", "::", "Exact", "Object", "float",
                "double")) {
            String quoted = Pattern.quote(word);
            boolean letters = Character.isLetter(word.charAt(0)) && !word.equals("Exact");
            Pattern p = Pattern.compile(letters ? "\\b" + quoted + "\\b" : quoted);
            must(!p.matcher(code).find(), "the source has '" + word + "'");
        }
        must(code.chars().allMatch(c -> c < 128), "a sign beyond 127");
    }

    private static void methods(String code) {
        Matcher m = Pattern.compile("(?m)^( {4}| {8})(?:public |private |static |final )*[\\w\\[\\]]+ ?\\w*\\([^;{]*\\) \\{$")
                .matcher(code);
        int seen = 0;
        while (m.find()) {
            int end = code.indexOf("\n" + m.group(1) + "}", m.end());
            long lines = code.substring(m.start(), end).chars().filter(c -> c == '\n').count() + 2;
            must(lines <= 60, m.group().strip() + " has " + lines + " lines");
            seen++;
        }
        must(seen > 100, "only " + seen + " methods seen");
    }

    /** A run of calls makes nothing beyond its objects: 'new' stands in fields and constructors. */
    private static void madeInConstructorsAlone(String code) {
        boolean inConstructor = false;
        String end = "";
        for (String line : code.split("\n")) {
            if (line.matches(" +(public )?[A-Z]\\w*\\(.*\\) \\{")) {
                inConstructor = true;
                end = line.replaceAll("\\S.*", "") + "}";
            } else if (line.equals(end)) {
                inConstructor = false;
            }
            boolean field = line.matches(" +private final .*");
            must(!line.contains("new ") || field || inConstructor, "made in a call: " + line.strip());
        }
    }
}
