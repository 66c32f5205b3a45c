import java.io.File;
import java.io.IOException;
import java.lang.reflect.Method;
import java.nio.file.Files;
import java.nio.file.Path;
import java.util.regex.Matcher;
import java.util.regex.Pattern;

/** What README.md says is so: its example is run line by line, and calls and tests that it names are there. */
public final class ReadmeTest {
    private static final Pattern MADE = Pattern.compile("RoamingNet net = new RoamingNet\\((.*?)\\);.*");
    private static final Pattern ALL = Pattern.compile("while \\(net\\.deliver\\(0\\)\\) \\{ \\}.*");
    private static final Pattern CALL = Pattern.compile("net\\.(\\w+)\\((.*?)\\); +// (-?\\w+): .*");
    private static final Pattern TEST = Pattern.compile("`(\\w+Test)`");

    public static void main(String[] args) throws IOException, ReflectiveOperationException {
        Check c = new Check("readme");
        String page = Files.readString(Path.of("README.md"));
        example(c, page);
        calls(c, page);
        tests(c, page);
        c.end();
    }

    private static void example(Check c, String page) throws ReflectiveOperationException {
        c.part("example");
        int start = page.indexOf("```java\n") + 8;
        RoamingNet net = null;
        int answers = 0;
        for (String line : page.substring(start, page.indexOf("```", start)).split("\n")) {
            Matcher made = MADE.matcher(line);
            Matcher call = CALL.matcher(line);
            if (made.matches()) {
                int[] n = numbers(made.group(1));
                net = new RoamingNet(n[0], n[1], n[2]);
            } else if (ALL.matcher(line).matches()) {
                Check.deliverAll(net);
            } else if (call.matches()) {
                c.due(line, told(call.group(3)), answer(net, call.group(1), numbers(call.group(2))));
                answers++;
            } else {
                c.due("a line that can't be run: " + line, false, true);
            }
        }
        c.due("the example has answers", answers > 0, true);
    }

    private static int[] numbers(String text) {
        if (text.isEmpty()) {
            return new int[0];
        }
        String[] parts = text.split(", ");
        int[] all = new int[parts.length];
        for (int k = 0; k < parts.length; k++) {
            all[k] = Integer.parseInt(parts[k]);
        }
        return all;
    }

    private static long told(String word) {
        return word.equals("true") ? 1 : word.equals("false") ? 0 : Long.parseLong(word);
    }

    private static long answer(RoamingNet net, String name, int[] numbers) throws ReflectiveOperationException {
        Class<?>[] types = new Class<?>[numbers.length];
        Object[] values = new Object[numbers.length];
        for (int k = 0; k < numbers.length; k++) {
            types[k] = int.class;
            values[k] = numbers[k];
        }
        Object got = RoamingNet.class.getMethod(name, types).invoke(net, values);
        return got instanceof Boolean ? ((Boolean) got ? 1 : 0) : (Integer) got;
    }

    private static void calls(Check c, String page) {
        c.part("calls");
        for (Method method : RoamingNet.class.getDeclaredMethods()) {
            if (java.lang.reflect.Modifier.isPublic(method.getModifiers())) {
                boolean told = Pattern.compile("`" + method.getName() + "\\([a-zA-Z, ]*\\)`").matcher(page).find();
                c.due("README.md tells of " + method.getName(), told, true);
            }
        }
    }

    private static void tests(Check c, String page) {
        c.part("tests");
        Matcher named = TEST.matcher(page);
        while (named.find()) {
            boolean there = new File("src/test/java", named.group(1) + ".java").exists();
            c.due(named.group(1) + " is there", there, true);
        }
        for (String file : new File("src/test/java").list()) {
            String name = file.substring(0, file.indexOf('.'));
            boolean told = name.matches("P(0[1-9]|1[0-7])\\w+Test") || page.contains("`" + name + "`");
            c.due("README.md tells of " + name, told, true);
        }
    }
}
