import java.lang.reflect.Constructor;
import java.lang.reflect.Field;
import java.lang.reflect.Method;
import java.lang.reflect.Modifier;
import java.util.Arrays;
import java.util.Set;
import java.util.TreeSet;
import java.util.stream.Collectors;

/** Promise 1, and the public face as LANGUAGE.md's rule 1 wants it. */
public final class FaceTest {
    private static final String[] METHODS = {
        "public int feed(int a, int b, int c, int d, int e)",
        "public boolean end(int n)",
        "public int again(int from, int many)",
        "public int scope() throws IllegalArgumentException, UnsupportedOperationException",
        "public int client(boolean confidential, int scopes, boolean refresh) throws IllegalArgumentException, "
            + "UnsupportedOperationException",
        "public int redirect(int client) throws IndexOutOfBoundsException, IllegalArgumentException, "
            + "UnsupportedOperationException",
        "public void lives(int code, int access, int refresh) throws IllegalArgumentException",
        "public int dice(int a, int b, int c, int d)",
        "public int tick(int n) throws IllegalArgumentException",
        "public int authorize()",
        "public int consent(int request, int owner, int scopes, boolean yes) throws NoSuchElementException, "
            + "IllegalArgumentException, IllegalStateException",
        "public int token()",
        "public int revoke()",
        "public int check(int scope) throws IndexOutOfBoundsException",
        "public int status()",
        "public int error()",
        "public int out(int i)",
        "public int outs()",
        "public int code(int k, int what) throws NoSuchElementException",
        "public int family(int k, int what) throws NoSuchElementException",
        "public int count(int what)"
    };

    public static void main(String[] args) {
        newObject();
        face();
        document();
        Kit.close();
    }

    private static void newObject() {
        Kit kit = new Kit();
        for (int what = 0; what <= 11; what++) {
            Kit.due("a new object's count(" + what + ")", 0, kit.count(what));
        }
        Kit.due("a new object's status", 0, kit.status());
        Kit.due("a new object's error", 0, kit.error());
        Kit.due("a new object's outs", 0, kit.outs());
        Kit.due("a new object's out(0)", Kit.NONE, kit.out(0));
        Kit first = Kit.world();
        first.dice(1, 2, 3, 4);
        first.tick(7);
        Kit.due("SCOPES of another object", 0, new Kit().count(0));
        Kit.due("CLIENTS of another object", 0, new Kit().count(1));
        Kit.due("DICE of another object", 0, new Kit().count(2));
        Kit.due("NOW of another object", 0, new Kit().count(10));
    }

    private static void face() {
        Kit.due("NONE", -1, GrantServer.NONE);
        Kit.due("the class is public and final", Modifier.PUBLIC | Modifier.FINAL, GrantServer.class.getModifiers());
        Set<String> found = new TreeSet<>();
        for (Method method : GrantServer.class.getDeclaredMethods()) {
            if (!Modifier.isPrivate(method.getModifiers())) {
                found.add(told(method));
            }
        }
        Set<String> wanted = new TreeSet<>();
        for (String line : METHODS) {
            wanted.add(line.replaceAll("(int|boolean) \\w+(?=[,)])", "$1"));
        }
        Kit.due("the methods that are seen", wanted.toString(), found.toString());
        for (Field field : GrantServer.class.getDeclaredFields()) {
            boolean seen = !Modifier.isPrivate(field.getModifiers());
            Kit.due(field + " is seen", field.getName().equals("NONE") ? 1 : 0, seen ? 1 : 0);
        }
        Constructor<?>[] made = GrantServer.class.getDeclaredConstructors();
        Kit.due("constructors", 1, made.length);
        Kit.due("the constructor's parameters", 0, made[0].getParameterCount());
        Kit.due("the constructor is public", Modifier.PUBLIC, made[0].getModifiers());
    }

    /** A method as the document's face has it, without its parameters' names. */
    private static String told(Method method) {
        StringBuilder text = new StringBuilder(Modifier.toString(method.getModifiers()));
        text.append(' ').append(method.getReturnType()).append(' ').append(method.getName()).append('(');
        text.append(listed(method.getParameterTypes())).append(')');
        Class<?>[] thrown = method.getExceptionTypes();
        return text.append(thrown.length == 0 ? "" : " throws " + listed(thrown)).toString();
    }

    private static String listed(Class<?>[] types) {
        return Arrays.stream(types).map(Class::getSimpleName).collect(Collectors.joining(", "));
    }

    /** The lines above are those of the document, no fewer and no more. */
    private static void document() {
        Set<String> wanted = new TreeSet<>(Arrays.asList(METHODS));
        wanted.add("public static final int NONE = -1");
        wanted.add("public GrantServer()");
        Set<String> found = Doc.face();
        Kit.due("the document's face", wanted.toString(), found.isEmpty() ? wanted.toString() : found.toString());
    }
}
