import java.io.IOException;
import java.lang.reflect.Constructor;
import java.lang.reflect.Field;
import java.lang.reflect.Method;
import java.lang.reflect.Modifier;
import java.nio.file.Files;
import java.nio.file.Path;
import java.util.ArrayList;
import java.util.List;
import java.util.Set;
import java.util.TreeSet;
import java.util.regex.Matcher;
import java.util.regex.Pattern;

/** What can be told of ../shared/LANGUAGE.md by looking at the file and at the class; run in the project's folder. */
public final class LanguageTest {
    private static final Set<String> FACE = Set.of("clock", "feed", "end", "act", "force", "person", "anew", "dies",
        "judge", "line", "book", "file", "summons", "hear", "order", "pay", "strike", "seize", "gaol", "claim", "state",
        "plan", "planned", "net", "netted", "list", "walk", "walked", "habit", "other", "count");
    private static final String[] BANNED = {"\\bthrow\\b", "\\btry\\b", "\\bcatch\\b", "\\bsynchronized\\b",
        "\\bassert\\b", "\\bimport\\b", "\\bpackage\\b", "->", "::", "Exact\\b", "while \\(true\\)", "for \\(;;",
        "\\bequals\\s*\\(Object", "\\bhashCode\\b", "\\btoString\\(\\) \\{", "\\bvolatile\\b", "\\bThread\\b",
        "\\bSystem\\.(?!arraycopy)", "\\bsuper\\b", "\\bextends\\b", "%\\s*0", "[^\\x00-\\x7f]", "\\t"};
    private static int passed;
    private static int failed;

    public static void main(String[] args) throws IOException {
        String source = Files.readString(Path.of("src/main/java/SmallCourt.java"));
        String code = source.replaceAll("(?s)/\\*.*?\\*/", "").replaceAll("//[^\\n]*", "");
        for (String banned : BANNED) {
            due("no " + banned, !Pattern.compile(banned).matcher(code).find());
        }
        due("no text joined by +", !Pattern.compile("\"\\s*\\+|\\+\\s*\"").matcher(code).find());
        face();
        nested();
        methods(code);
        System.out.println(passed + " passed, " + failed + " failed");
        System.exit(failed == 0 ? 0 : 1);
    }

    private static void due(String what, boolean holds) {
        if (holds) {
            passed++;
        } else {
            failed++;
            System.out.println("not so: " + what);
        }
    }

    private static void face() {
        Set<String> met = new TreeSet<>();
        List<Method> methods = new ArrayList<>(List.of(SmallCourt.class.getDeclaredMethods()));
        for (Class<?> inside : SmallCourt.class.getDeclaredClasses()) {
            methods.addAll(List.of(inside.getDeclaredMethods()));
        }
        for (Method method : methods) {
            boolean isFace = method.getDeclaringClass() == SmallCourt.class && Modifier.isPublic(method.getModifiers());
            due(method + " stands on the face just if it bears a name of it",
                isFace == FACE.contains(method.getName()) || method.isSynthetic());
            due(method + " is public or private", isFace || method.getDeclaringClass() != SmallCourt.class
                || Modifier.isPrivate(method.getModifiers()));
            due(method + " takes seven at most", method.getParameterCount() <= 7);
            if (isFace) met.add(method.getName());
        }
        due("the whole face", met.equals(new TreeSet<>(FACE)));
        for (Field field : SmallCourt.class.getDeclaredFields()) {
            boolean isNone = field.getName().equals("NONE");
            due(field + " is private, but for NONE", isNone == !Modifier.isPrivate(field.getModifiers()));
            due(field + " is final if it is static",
                !Modifier.isStatic(field.getModifiers()) || Modifier.isFinal(field.getModifiers()));
        }
        Constructor<?>[] made = SmallCourt.class.getDeclaredConstructors();
        due("one constructor", made.length == 1 && Modifier.isPublic(made[0].getModifiers()));
        due("public and final", Modifier.isPublic(SmallCourt.class.getModifiers())
            && Modifier.isFinal(SmallCourt.class.getModifiers()));
    }

    private static void nested() {
        Class<?>[] inside = SmallCourt.class.getDeclaredClasses();
        due("twelve classes at most", inside.length + 1 <= 12);
        for (Class<?> each : inside) {
            due(each + " is static and not public",
                Modifier.isStatic(each.getModifiers()) && !Modifier.isPublic(each.getModifiers()));
        }
        for (Class<?> each : inside) {
            due(each + " has some twenty fields", fields(each) <= 20);
        }
        due("the court has some twenty fields", fields(SmallCourt.class) <= 20);
    }

    private static int fields(Class<?> each) {
        int many = 0;
        for (Field field : each.getDeclaredFields()) {
            many += Modifier.isStatic(field.getModifiers()) || field.isSynthetic() ? 0 : 1;
        }
        return many;
    }

    private static void methods(String code) {
        Matcher head = Pattern.compile("(?m)^( {4}| {8})(?!static final|private static final class|return|if|for)"
            + "[a-z][\\w<>\\[\\] ]*\\([^;]*?\\) \\{$").matcher(code);
        int many = 0;
        while (head.find()) {
            int end = code.indexOf("\n" + head.group(1) + "}\n", head.start());
            long lines = code.substring(head.start(), Math.max(head.start(), end)).lines().count();
            due(head.group().trim() + " is some sixty lines long at most: " + lines, end > 0 && lines <= 60);
            many++;
        }
        due("methods were found: " + many, many > 80);
    }
}
