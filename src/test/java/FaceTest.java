import java.lang.reflect.Constructor;
import java.lang.reflect.Field;
import java.lang.reflect.Method;
import java.lang.reflect.Modifier;
import java.util.Arrays;
import java.util.Set;
import java.util.TreeSet;

/** The public face is the document's and no more; what is inside is private, and no static field changes. */
public final class FaceTest {
    private static final String[] METHODS = {"tick(int)", "follow(int,int,int)", "renew(int)", "client(int,int)",
        "follows(int,int)", "init(int,boolean,int)", "meet(int,int,int)", "agree(int,int)", "confirm(int,int)",
        "close(int,int)", "shut(int,int,int)", "send(int,int,int,int,int,int,int)", "receive(int,int)",
        "acknowledge(int,int)", "timeout(int,int)", "end(int,int,int)", "stepAt(int,int,int)", "message(int,int)",
        "balance(int,int,int)", "vouchers(int,int,int)", "sum(int,int)", "count(int)", "clear()"};
    private static final String[] CONSTANTS = {"UNKNOWN", "OUTSIDE", "STATE", "FROZEN", "HEADER", "PROOF", "LATE",
        "ORDER", "VERSION", "ROOM"};

    public static void main(String[] args) {
        methods();
        fields();
        constructors();
        classes();
        Checks.end();
    }

    private static void so(String what, boolean is) {
        Checks.due(what, is ? 1 : 0, 1);
    }

    private static String textOf(Method method) {
        StringBuilder text = new StringBuilder(method.getName()).append('(');
        for (Class<?> type : method.getParameterTypes()) {
            text.append(text.charAt(text.length() - 1) == '(' ? "" : ",").append(type.getName());
        }
        return text.append(')').toString();
    }

    private static void methods() {
        Set<String> seen = new TreeSet<>();
        for (Method method : BridgeClients.class.getDeclaredMethods()) {
            if (Modifier.isPublic(method.getModifiers())) {
                seen.add(textOf(method));
                so(method + " answers an int", method.getReturnType() == int.class);
                so(method + " is not static", !Modifier.isStatic(method.getModifiers()));
            }
        }
        so("the methods " + seen, seen.equals(new TreeSet<>(Arrays.asList(METHODS))));
        hidden(BridgeClients.class);
    }

    private static void hidden(Class<?> type) {
        Set<String> names = new TreeSet<>();
        for (String method : METHODS) {
            names.add(method.substring(0, method.indexOf('(')));
        }
        for (Method method : type.getDeclaredMethods()) {
            if (type != BridgeClients.class || !Modifier.isPublic(method.getModifiers())) {
                so(method + " is private", Modifier.isPrivate(method.getModifiers()));
                so(method + " has a name of its own", !names.contains(method.getName()));
            }
        }
    }

    private static void fields() {
        Set<String> seen = new TreeSet<>();
        for (Field field : BridgeClients.class.getDeclaredFields()) {
            int flags = field.getModifiers();
            if (Modifier.isPublic(flags)) {
                seen.add(field.getName());
                so(field + " is a constant", Modifier.isStatic(flags) && field.getType() == int.class);
            } else {
                so(field + " is private", Modifier.isPrivate(flags));
            }
            so(field + " is no changing static", !Modifier.isStatic(flags) || Modifier.isFinal(flags));
        }
        so("the constants " + seen, seen.equals(new TreeSet<>(Arrays.asList(CONSTANTS))));
    }

    private static void constructors() {
        Constructor<?>[] all = BridgeClients.class.getDeclaredConstructors();
        Checks.due("constructors", all.length, 1);
        so("it is public", Modifier.isPublic(all[0].getModifiers()));
        Checks.due("its parameters", all[0].getParameterCount(), 0);
    }

    private static void classes() {
        int flags = BridgeClients.class.getModifiers();
        so("public final class", Modifier.isPublic(flags) && Modifier.isFinal(flags));
        for (Class<?> inside : BridgeClients.class.getDeclaredClasses()) {
            so(inside + " is private and static",
                Modifier.isPrivate(inside.getModifiers()) && Modifier.isStatic(inside.getModifiers()));
            hidden(inside);
        }
    }
}
