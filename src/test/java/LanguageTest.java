import java.io.File;
import java.io.IOException;
import java.lang.reflect.Executable;
import java.lang.reflect.Field;
import java.lang.reflect.Modifier;
import java.nio.file.Files;
import java.nio.file.Path;
import java.util.ArrayList;
import java.util.LinkedHashMap;
import java.util.List;
import java.util.Map;
import java.util.Set;
import java.util.regex.Matcher;
import java.util.regex.Pattern;

/** What of LANGUAGE.md can be seen in the source and in the class: the rules are named by their numbers. */
public final class LanguageTest {
    private static final String PLACE = "src/main/java";
    private static final String SOURCE = PLACE + "/RoamingNet.java";
    // The document asks for no exception, so that no word of rule 6 has a place here.
    private static final Set<String> NO_WORDS = Set.of("package", "import", "try", "catch", "throw", "throws", "finally",
            "synchronized", "assert", "volatile", "transient", "native", "strictfp", "equals", "hashCode", "toString",
            "instanceof", "protected", "null");
    private static final Set<String> LIBRARY = Set.of("Math.min", "Integer.MAX_VALUE");
    private static final Pattern HEAD = Pattern.compile("^(?: {4}| {8})(?:public|private) .*?(\\w+)\\(.*\\) \\{$");
    private static final Pattern MAKER = Pattern.compile("^ +(?:public|private) [A-Z]\\w*\\(.*");
    private static final Pattern WORD = Pattern.compile("\\b[A-Za-z]\\w*\\b");

    public static void main(String[] args) throws IOException {
        Check c = new Check("language");
        c.part("one file");
        c.due("files in " + PLACE, new File(PLACE).list().length, 1);
        List<String> lines = withoutComments(Files.readAllLines(Path.of(SOURCE)));
        words(c, String.join("\n", lines));
        List<Class<?>> classes = new ArrayList<>(List.of(RoamingNet.class.getDeclaredClasses()));
        classes.add(RoamingNet.class);
        c.part("rule 11");
        c.due("at most twelve classes", classes.size() <= 12, true);
        for (Class<?> one : classes) {
            members(c, one);
        }
        methods(c, lines);
        c.end();
    }

    private static List<String> withoutComments(List<String> lines) {
        List<String> code = new ArrayList<>();
        for (String line : lines) {
            code.add(line.replaceAll("/\\*\\*.*\\*/|//.*", ""));
        }
        return code;
    }

    private static void words(Check c, String code) {
        c.part("rules 2, 6, 10 and 13");
        Matcher word = WORD.matcher(code);
        while (word.find()) {
            c.due("the word " + word.group() + " stands in " + SOURCE, NO_WORDS.contains(word.group()), false);
        }
        for (String sign : new String[] {"->", "::", "\"", "@", "static {", "double", "float"}) {
            c.due("the sign " + sign + " stands in " + SOURCE, code.contains(sign), false);
        }
        c.part("rule 4");
        Matcher used = Pattern.compile("\\b[A-Z]\\w*\\.\\w+").matcher(code);
        while (used.find()) {
            c.due(used.group() + " is what the program may use", LIBRARY.contains(used.group()), true);
        }
    }

    private static void members(Check c, Class<?> one) {
        c.part(one.getSimpleName());
        int fields = 0;
        for (Field field : one.getDeclaredFields()) {
            Class<?> type = field.getType().isArray() ? field.getType().getComponentType() : field.getType();
            c.due("rule 1, " + field + " is private", Modifier.isPrivate(field.getModifiers()), true);
            c.due("rule 3, " + field, type == int.class || type.getNestHost() == RoamingNet.class, true);
            if (Modifier.isStatic(field.getModifiers())) {
                c.due("rule 5, " + field, Modifier.isFinal(field.getModifiers()) && field.getType() == int.class, true);
            } else {
                fields++;
            }
        }
        c.due("rule 11, at most twenty fields", fields <= 20, true);
        List<Executable> all = new ArrayList<>(List.of(one.getDeclaredMethods()));
        all.addAll(List.of(one.getDeclaredConstructors()));
        for (Executable method : all) {
            c.due("rule 11, at most seven parameters of " + method, method.getParameterCount() <= 7, true);
            if (one != RoamingNet.class) {
                c.due("rule 1, " + method + " is private", Modifier.isPrivate(method.getModifiers()), true);
            }
        }
    }

    private static void methods(Check c, List<String> lines) {
        Map<String, StringBuilder> bodies = new LinkedHashMap<>();
        String head = "";
        String name = "";
        int length = 0;
        for (String line : lines) {
            Matcher start = HEAD.matcher(line);
            if (start.matches()) {
                head = line;
                name = start.group(1);
                length = 0;
                // Methods of one name count as one, which can only make the calls look deeper than they are.
                bodies.putIfAbsent(name, new StringBuilder());
                continue;
            }
            length++;
            if (!name.isEmpty()) {
                bodies.get(name).append(line).append('\n');
            }
            c.part("rule 12, " + head.trim());
            if (line.contains("new ")) {
                c.due("what is made is made in a constructor:" + line, MAKER.matcher(head).matches(), true);
            }
            if (!name.isEmpty() && line.equals(head.replaceAll("\\S.*", "") + "}")) {
                c.due("rule 11, at most sixty lines", length <= 60, true);
                name = "";
            }
        }
        c.part("rules 8 and 11");
        c.due("methods are found", bodies.size() > 16, true);
        for (String one : bodies.keySet()) {
            c.due("calls from " + one + " go at most eight deep", depth(bodies, one, 1) <= 8, true);
        }
    }

    private static int depth(Map<String, StringBuilder> bodies, String name, int level) {
        int deepest = level;
        // A method that calls itself would go on for ever.
        if (level > 8) {
            return level;
        }
        Matcher call = Pattern.compile("(\\w+)\\(").matcher(bodies.get(name));
        while (call.find()) {
            if (bodies.containsKey(call.group(1))) {
                deepest = Math.max(deepest, depth(bodies, call.group(1), level + 1));
            }
        }
        return deepest;
    }
}
