import java.io.IOException;
import java.lang.reflect.Executable;
import java.lang.reflect.Field;
import java.lang.reflect.Method;
import java.lang.reflect.Modifier;
import java.nio.file.Files;
import java.nio.file.Path;
import java.util.ArrayList;
import java.util.Arrays;
import java.util.List;
import java.util.Set;
import java.util.TreeSet;
import java.util.regex.Matcher;
import java.util.regex.Pattern;

/** The rules of ../shared/LANGUAGE.md, as far as the source's text and the compiled classes show them. */
public final class LanguageTest {
    private static final Set<String> IMPORTS = Set.of("java.util.ArrayList", "java.util.List", "java.util.Iterator",
        "java.util.Arrays", "java.util.NoSuchElementException");
    private static final Set<String> THROWN = Set.of(Kit.STATE, Kit.ILLEGAL, Kit.INDEX, "ArithmeticException",
        Kit.UNSUPPORTED, Kit.NO_SUCH, "RuntimeException");
    // Rule 6 leaves some room for try and catch; the class needs none, so it is held to none.
    private static final String[] NOT_ALLOWED = {"->", "::", "\\bfinally\\b", "\\bsynchronized\\b", "\\bassert\\b",
        "\\bvolatile\\b", "\\bnative\\b", "\\btransient\\b", "\\bObject\\b", "\\bThread\\b", "\\bRandom\\b",
        "\\bSystem\\.(?!arraycopy\\b)", "\\bMath\\.\\w+Exact\\b", "\\b(hashCode|toString|getClass|getMessage)\\(",
        "\\btry\\b", "\\bcatch\\b", "\\bstatic \\{", "\"\" *\\+|\\+ *\"\"", "\\[\\]\\[\\]\\[\\]", "\\bvar\\b", "@"};
    private static final Set<Class<?>> CONSTANTS = Set.of(int.class, long.class, boolean.class, char.class, String.class,
        int[].class, long[].class, char[].class, byte[].class);

    public static void main(String[] args) throws IOException {
        String source = withoutTexts(Files.readString(Path.of("src/main/java/GrantServer.java")));
        imports(source);
        notAllowed(source);
        thrown(source);
        List<Class<?>> classes = new ArrayList<>(List.of(GrantServer.class));
        classes.addAll(Arrays.asList(GrantServer.class.getDeclaredClasses()));
        Kit.due("rule 11: at most twelve classes", "yes", classes.size() <= 12 ? "yes" : "no, " + classes.size());
        for (Class<?> each : classes) {
            fields(each);
            methods(each);
        }
        names(classes);
        lengths(source);
        Kit.close();
    }

    /** The source with its comments, and what is within its texts and characters, taken out. */
    private static String withoutTexts(String source) {
        Matcher parts = Pattern.compile("/\\*.*?\\*/|//[^\n]*|\"(\\\\.|[^\"\\\\])*\"|'(\\\\.|[^'\\\\])'", Pattern.DOTALL)
            .matcher(source);
        return parts.replaceAll(part -> part.group().startsWith("\"") ? "\"\"" : part.group().startsWith("'") ? "' '" : "");
    }

    private static void imports(String source) {
        Matcher found = Pattern.compile("\\bimport ([^;]*);").matcher(source);
        while (found.find()) {
            Kit.due("rule 4: import of " + found.group(1), "allowed", IMPORTS.contains(found.group(1)) ? "allowed" : "not");
        }
        Kit.due("no package line", "none", source.contains("package ") ? "one" : "none");
    }

    private static void notAllowed(String source) {
        for (String words : NOT_ALLOWED) {
            Matcher found = Pattern.compile(words).matcher(source);
            Kit.due("rules 2 to 13: " + words, "nowhere", found.find() ? "at " + found.start() : "nowhere");
        }
    }

    private static void thrown(String source) {
        Matcher found = Pattern.compile("\\bthrow\\b([^;]*);").matcher(source);
        while (found.find()) {
            Matcher form = Pattern.compile(" new (\\w+)\\((\"\")?\\)").matcher(found.group(1));
            boolean good = form.matches() && THROWN.contains(form.group(1));
            Kit.due("rule 6: throw" + found.group(1), "allowed", good ? "allowed" : "not");
        }
    }

    private static void fields(Class<?> each) {
        int own = 0;
        for (Field field : each.getDeclaredFields()) {
            if (Modifier.isStatic(field.getModifiers())) {
                boolean good = Modifier.isFinal(field.getModifiers()) && CONSTANTS.contains(field.getType());
                Kit.due("rule 5: " + field, "a constant", good ? "a constant" : "none");
            } else {
                own++;
            }
        }
        Kit.due("rule 11: some twenty fields of " + each, "yes", own <= 20 ? "yes" : "no, " + own);
        boolean inside = each != GrantServer.class;
        int open = Modifier.PUBLIC | Modifier.PROTECTED;
        boolean good = !inside || Modifier.isStatic(each.getModifiers()) && (each.getModifiers() & open) == 0;
        Kit.due("rule 1: " + each + " is static and not open", "yes", good ? "yes" : "no");
    }

    private static void methods(Class<?> each) {
        List<Executable> all = new ArrayList<>(Arrays.asList(each.getDeclaredMethods()));
        all.addAll(Arrays.asList(each.getDeclaredConstructors()));
        for (Executable method : all) {
            int many = method.getParameterCount();
            Kit.due("rule 11: at most seven parameters of " + method, "yes", many <= 7 ? "yes" : "no, " + many);
        }
    }

    private static void names(List<Class<?>> classes) {
        Set<String> face = new TreeSet<>();
        for (Method method : GrantServer.class.getDeclaredMethods()) {
            if (Modifier.isPublic(method.getModifiers())) {
                face.add(method.getName());
            }
        }
        for (Class<?> each : classes) {
            for (Method method : each.getDeclaredMethods()) {
                boolean same = Modifier.isPrivate(method.getModifiers()) && face.contains(method.getName());
                Kit.due("rule 1: " + method, "a name of its own", same ? "a public one's" : "a name of its own");
            }
        }
    }

    /** A method is what is between a line of its own that opens it and the line that closes it as deep. */
    private static void lengths(String source) {
        String[] lines = source.split("\n", -1);
        for (int i = 0; i < lines.length; i++) {
            Matcher head = Pattern.compile("( +)(?!.*\\bclass\\b)[\\w<>\\[\\] ]+\\(.*").matcher(lines[i]);
            if (!head.matches() || !lines[i].matches(" {4}(?! ).*| {8}(?! ).*\\) \\{")) {
                continue;
            }
            int end = i;
            while (end < lines.length - 1 && !lines[end].equals(head.group(1) + "}")) {
                end++;
            }
            Kit.due("rule 11: some sixty lines of" + lines[i], "yes", end - i < 60 ? "yes" : "no, " + (end - i));
        }
    }
}
