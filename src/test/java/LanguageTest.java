import java.io.IOException;
import java.lang.reflect.Field;
import java.lang.reflect.Method;
import java.lang.reflect.Modifier;
import java.nio.file.Files;
import java.nio.file.Path;
import java.util.Arrays;
import java.util.List;
import java.util.Set;
import java.util.TreeSet;
import java.util.regex.Matcher;
import java.util.regex.Pattern;

/** The face of the document, and what of LANGUAGE.md can be seen in the source and by reflection. */
public final class LanguageTest {
    private static final Path SOURCE = Path.of("src/main/java/CommonsTurns.java");
    private static final List<String> FACE = List.of(
        "member(int)", "use(int,int)", "close()", "pay(int,int)", "repair(int)", "set(int,int)",
        "memberOf(int,int)", "count(int)", "seasonOf(int,int)", "gain(int,int)", "bestUse(int)", "calm(int)",
        "bestForAll(int)", "wouldExclude()", "canRepair()", "undo()", "type(int)", "clearText()", "fault(int)",
        "play()");
    private static final Checks checks = new Checks();

    public static void main(String[] args) throws IOException {
        face();
        classesInside();
        words(code(Files.readString(SOURCE)));
        checks.end();
    }

    private static void face() {
        checks.under("rule 1");
        Class<?> face = CommonsTurns.class;
        checks.holds("public and final", Modifier.isPublic(face.getModifiers()) && Modifier.isFinal(face.getModifiers()));
        checks.due("constructors", face.getDeclaredConstructors().length, 1);
        Set<String> open = new TreeSet<>();
        Set<String> openNames = new TreeSet<>();
        for (Method method : face.getDeclaredMethods()) {
            if (!Modifier.isPrivate(method.getModifiers())) {
                String parameters = Arrays.toString(method.getParameterTypes()).replaceAll("[\\[\\] ]", "");
                open.add(method.getName() + "(" + parameters + ")");
                openNames.add(method.getName());
                checks.holds(method + " returns int", method.getReturnType() == int.class);
            }
        }
        checks.holds("the methods are " + open, open.equals(new TreeSet<>(FACE)));
        for (Method method : face.getDeclaredMethods()) {
            boolean hidden = Modifier.isPrivate(method.getModifiers());
            checks.holds(method + " bears a public name", !hidden || !openNames.contains(method.getName()));
        }
        int constants = 0;
        for (Field field : face.getDeclaredFields()) {
            constants += Modifier.isPrivate(field.getModifiers()) ? 0 : 1;
            checks.holds(field + " is static, not final",
                !Modifier.isStatic(field.getModifiers()) || Modifier.isFinal(field.getModifiers()));
        }
        checks.due("constants", constants, 4);
        checks.due("INVALID_ARGUMENT", CommonsTurns.INVALID_ARGUMENT, -10001);
        checks.due("NOT_POSSIBLE", CommonsTurns.NOT_POSSIBLE, -10002);
        checks.due("LIMIT_REACHED", CommonsTurns.LIMIT_REACHED, -10003);
        checks.due("NOT_FOUND", CommonsTurns.NOT_FOUND, -10004);
    }

    private static void classesInside() {
        checks.under("rules 2 and 11");
        Class<?>[] inside = CommonsTurns.class.getDeclaredClasses();
        checks.holds("at most 12 classes", inside.length < 12);
        for (Class<?> one : inside) {
            int modifiers = one.getModifiers();
            checks.holds(one + " is static", Modifier.isStatic(modifiers));
            checks.holds(one + " is not open", !Modifier.isPublic(modifiers) && !Modifier.isProtected(modifiers));
            long fields = Arrays.stream(one.getDeclaredFields()).filter(f -> !Modifier.isStatic(f.getModifiers())).count();
            checks.holds(one + " has " + fields + " fields", fields <= 20);
            for (Method method : one.getDeclaredMethods()) {
                checks.holds(method + " takes too much", method.getParameterCount() <= 7);
            }
        }
    }

    /** The source without comments and with every sign in quotes replaced. */
    private static String code(String source) {
        String bare = source.replaceAll("(?s)/\\*.*?\\*/", " ").replaceAll("//[^\n]*", " ");
        return bare.replaceAll("'(\\\\.|[^'])'", "'x'");
    }

    private static void words(String code) {
        checks.under("rules 4, 5, 6, 9, 10 and 13");
        String[] ruledOut = {"\\bimport (?!java\\.util\\.(ArrayList|List|Arrays|Iterator);)", "\\bpackage\\b",
            "\\bthrows?\\b", "\\btry\\b", "\\bcatch\\b", "\\bsynchronized\\b", "\\bassert\\b",
            "(?m)^(?!\\s*(case|default)\\b).*->", "::", "\\bstatic\\s*\\{", "\\b\\w+Exact\\b", "\\bhashCode\\b",
            "\\bThread\\b", "\\bnanoTime\\b", "\\bRandom\\b", "\\bSystem\\.(?!arraycopy)", "\\bint\\.\\.\\."};
        for (String word : ruledOut) {
            Matcher matcher = Pattern.compile(word).matcher(code);
            checks.holds("the source has " + word, !matcher.find());
        }
    }
}
