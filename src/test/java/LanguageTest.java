import java.io.IOException;
import java.lang.reflect.Field;
import java.lang.reflect.Method;
import java.lang.reflect.Modifier;
import java.nio.file.Files;
import java.nio.file.Path;
import java.util.List;
import java.util.regex.Matcher;
import java.util.regex.Pattern;

/** What ../shared/LANGUAGE.md asks for and can be seen in the text of the class, by the numbers of its rules. */
public final class LanguageTest {
    private static final Path CLASS = Path.of("src/main/java/BridgeClients.java");
    private static final List<String> IMPORTS = List.of("java.util.Arrays", "java.util.ArrayList", "java.util.List",
        "java.util.Iterator");
    private static final List<String> STATIC_TYPES = List.of("int", "long", "boolean", "char", "java.lang.String",
        "[I", "[J", "[C", "[B");
    private static final String[] RULED_OUT = {"\\bpackage\\b", "->", "::", "\\bthrows?\\b", "\\btry\\b", "\\bcatch\\b",
        "\\bfinally\\b", "\\bsynchronized\\b", "\\bassert\\b", "\\bprotected\\b", "\\bvolatile\\b", "\\bnative\\b",
        "\\bThread\\b", "\\bRandom\\b", "Exact\\(", "\\bhashCode\\b", "\\btoString\\b", "\\bstatic\\s*\\{", "[^\\x00-\\x7f]"};

    public static void main(String[] args) throws IOException {
        String code = withoutComments(Files.readString(CLASS));
        ruledOut(code);
        imports(code);
        methodsAreShort(code);
        ofOneClass(BridgeClients.class);
        for (Class<?> inside : BridgeClients.class.getDeclaredClasses()) {
            ofOneClass(inside);
        }
        so("rule 11: some twelve classes", BridgeClients.class.getDeclaredClasses().length < 12);
        Checks.end();
    }

    private static void so(String what, boolean is) {
        Checks.due(what, is ? 1 : 0, 1);
    }

    /** The class has no texts, in which something could look like a comment or a word that is ruled out. */
    private static String withoutComments(String text) {
        String code = text.replaceAll("(?s)/\\*.*?\\*/", "").replaceAll("//[^\n]*", "");
        so("no texts", code.indexOf('"') < 0 && code.indexOf('\'') < 0);
        return code;
    }

    private static void ruledOut(String code) {
        for (String pattern : RULED_OUT) {
            so("rules 2, 4, 6, 13: " + pattern, !Pattern.compile(pattern).matcher(code).find());
        }
    }

    private static void imports(String code) {
        Matcher found = Pattern.compile("\\bimport\\s+([^;]*);").matcher(code);
        while (found.find()) {
            so("rule 4: import " + found.group(1), IMPORTS.contains(found.group(1)));
        }
        so("rule 4: no name with its package", !code.replaceAll("import [^;]*;", "").contains("java."));
    }

    /** A method begins with a line that ends in "{" and ends with the next "}" that stands as far in. */
    private static void methodsAreShort(String code) {
        String[] lines = code.split("\n");
        int seen = 0;
        for (int i = 0; i < lines.length; i++) {
            if (lines[i].matches(" {4}(?: {4})?(?:public|private) .*\\) \\{")) {
                String end = lines[i].substring(0, lines[i].indexOf('p')) + "}";
                int length = 1;
                while (i + length < lines.length && !lines[i + length].equals(end)) {
                    length++;
                }
                so("rule 11: " + lines[i].trim() + " has " + length + " lines", length <= 60);
                seen++;
            }
        }
        so("methods were seen: " + seen, seen > 24);
    }

    private static void ofOneClass(Class<?> type) {
        int fields = 0;
        for (Field field : type.getDeclaredFields()) {
            if (Modifier.isStatic(field.getModifiers())) {
                so("rule 5: " + field, Modifier.isFinal(field.getModifiers())
                    && STATIC_TYPES.contains(field.getType().getName()));
            } else {
                fields++;
            }
        }
        so("rule 11: fields of " + type, fields <= 20);
        for (Method method : type.getDeclaredMethods()) {
            so("rule 11: parameters of " + method, method.getParameterCount() <= 7);
        }
    }
}
