import java.lang.reflect.Constructor;
import java.lang.reflect.Field;
import java.lang.reflect.Method;
import java.lang.reflect.Modifier;
import java.util.Set;
import java.util.TreeSet;

/** Promise 1, and the public face as LANGUAGE.md's rule 1 wants it. */
public final class FaceTest {
    private static final String[] METHODS = {
        "int feed(int,int,int,int,int)", "boolean end(int)", "int again(int,int)",
        "int scope()", "int client(boolean,int,boolean)",
        "int redirect(int)", "void lives(int,int,int)", "int dice(int,int,int,int)", "int tick(int)",
        "int authorize()", "int consent(int,int,int,boolean)", "int token()", "int revoke()", "int check(int)",
        "int status()", "int error()", "int out(int)", "int outs()", "int code(int,int)", "int family(int,int)",
        "int count(int)"
    };

    public static void main(String[] args) {
        newObject();
        face();
        Kit.close();
    }

    private static void newObject() {
        Kit kit = new Kit();
        for (int what = 0; what <= 11; what++) {
            Kit.due("a new object's count(" + what + ")", 0, kit.count(what));
        }
        Kit.due("a new object's status", 0, kit.status());
        Kit.due("a new object's error", 0, kit.error());
        Kit.due("a new object's outs", 0, kit.outs());
        Kit.due("a new object's out(0)", Kit.NONE, kit.out(0));
        Kit first = Kit.world();
        first.dice(1, 2, 3, 4);
        first.tick(7);
        Kit.due("SCOPES of another object", 0, new Kit().count(0));
        Kit.due("CLIENTS of another object", 0, new Kit().count(1));
        Kit.due("DICE of another object", 0, new Kit().count(2));
        Kit.due("NOW of another object", 0, new Kit().count(10));
    }

    private static void face() {
        Kit.due("NONE", -1, GrantServer.NONE);
        Kit.due("the class is public and final", Modifier.PUBLIC | Modifier.FINAL, GrantServer.class.getModifiers());
        Set<String> found = new TreeSet<>();
        for (Method method : GrantServer.class.getDeclaredMethods()) {
            if (!Modifier.isPrivate(method.getModifiers())) {
                found.add(told(method));
                Kit.due(method + " is public", Modifier.PUBLIC, method.getModifiers());
            }
        }
        Kit.due("the methods that are seen", new TreeSet<>(Set.of(METHODS)).toString(), found.toString());
        for (Field field : GrantServer.class.getDeclaredFields()) {
            boolean seen = !Modifier.isPrivate(field.getModifiers());
            Kit.due(field + " is seen", field.getName().equals("NONE") ? 1 : 0, seen ? 1 : 0);
        }
        Constructor<?>[] made = GrantServer.class.getDeclaredConstructors();
        Kit.due("constructors", 1, made.length);
        Kit.due("the constructor's parameters", 0, made[0].getParameterCount());
        Kit.due("the constructor is public", Modifier.PUBLIC, made[0].getModifiers());
    }

    private static String told(Method method) {
        StringBuilder text = new StringBuilder();
        text.append(method.getReturnType()).append(' ').append(method.getName()).append('(');
        for (int i = 0; i < method.getParameterCount(); i++) {
            text.append(i == 0 ? "" : ",").append(method.getParameterTypes()[i]);
        }
        return text.append(')').toString();
    }
}
