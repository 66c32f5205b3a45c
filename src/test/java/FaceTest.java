import java.lang.reflect.Field;
import java.lang.reflect.Method;
import java.lang.reflect.Modifier;
import java.util.Set;
import java.util.TreeSet;

/** The public face, and what LANGUAGE.md rules 1 and 5 say of it. */
public final class FaceTest {
    private static final String[] FACE = {
        "boolean key(int, int, int)", "boolean move(int, int)", "boolean tick(int)", "int say(int)",
        "boolean deliver(int)", "boolean drop(int)", "boolean duplicate(int)",
        "boolean inject(int, int, int, int, int, int)", "int messages()", "int message(int)", "int place(int)",
        "int registered(int)", "int open(int)", "int binding(int)", "int visit(int, int)", "int count(int, int)"};

    public static void main(String[] args) {
        Check c = new Check("face");
        methods(c);
        fields(c);
        c.part("class");
        c.due("public and final", RoamingNet.class.getModifiers() == (Modifier.PUBLIC | Modifier.FINAL), true);
        c.due("constructors", RoamingNet.class.getDeclaredConstructors().length, 1);
        for (Class<?> inside : RoamingNet.class.getDeclaredClasses()) {
            c.due(inside.getName() + " is static", Modifier.isStatic(inside.getModifiers()), true);
            c.due(inside.getName() + " is public", Modifier.isPublic(inside.getModifiers()), false);
        }
        c.end();
    }

    private static void methods(Check c) {
        c.part("methods");
        Set<String> want = new TreeSet<>(Set.of(FACE));
        Set<String> names = new TreeSet<>();
        for (String line : FACE) {
            names.add(line.substring(line.indexOf(' ') + 1, line.indexOf('(')));
        }
        for (Method method : RoamingNet.class.getDeclaredMethods()) {
            if (Modifier.isPrivate(method.getModifiers())) {
                c.due("private " + method.getName(), names.contains(method.getName()), false);
                continue;
            }
            StringBuilder line = new StringBuilder();
            line.append(method.getReturnType()).append(' ').append(method.getName()).append('(');
            for (int k = 0; k < method.getParameterCount(); k++) {
                line.append(k == 0 ? "" : ", ").append(method.getParameterTypes()[k]);
            }
            line.append(')');
            c.due(line + " stands in the document", want.remove(line.toString()), true);
            c.due(line + " is public", method.getModifiers() == Modifier.PUBLIC, true);
        }
        c.due("missing " + want, want.size(), 0);
    }

    private static void fields(Check c) {
        c.part("fields");
        for (Field field : RoamingNet.class.getDeclaredFields()) {
            c.due(field + " is private", Modifier.isPrivate(field.getModifiers()), true);
            if (Modifier.isStatic(field.getModifiers())) {
                c.due(field + " is final", Modifier.isFinal(field.getModifiers()), true);
            }
        }
    }
}
