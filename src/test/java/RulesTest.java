import java.io.IOException;
import java.lang.reflect.Executable;
import java.lang.reflect.Field;
import java.lang.reflect.Method;
import java.lang.reflect.Modifier;
import java.nio.file.Files;
import java.nio.file.Path;
import java.util.ArrayList;
import java.util.List;
import java.util.regex.Pattern;

/** LANGUAGE.md, as far as the class and its text show it; its rules' numbers stand in the complaints. */
public final class RulesTest {
    private static final Path SOURCE = Path.of("src", "main", "java", "SkyAdvisor.java");
    private static final List<String> FACE =
        List.of("set", "place", "speed", "follow", "leave", "step", "told", "pair", "all");
    private static final String[][] NOT_IN_THE_TEXT = {
        {"rules 3 and 4: no import or package", "\\b(import|package)\\b"},
        {"rule 2: no lambda, no method reference", "->|::"},
        {"rule 3: no double or float is needed", "\\b(double|float)\\b"},
        {"rule 4: no library but Math, and clone of an array",
            "\\b(System|Arrays|Integer|Long|Object|String|StringBuilder|ArrayList|List)\\b"},
        {"rule 4: none whose name ends in Exact", "Exact\\b"},
        {"rule 5: no static initialiser block", "static\\s*\\{"},
        {"rule 6: no exception but the document's", "throw new (?!IllegalArgumentException\\(\")"},
        {"rule 6: no such word", "\\b(try|catch|finally|synchronized|assert|instanceof)\\b"},
        {"rule 9: no loop but over a counter or an array", "\\b(while|do)\\b"},
    };

    public static void main(String[] args) throws IOException {
        String text = Files.readString(SOURCE).replaceAll("(?s)/\\*.*?\\*/", "").replaceAll("//.*", "");
        for (String[] row : NOT_IN_THE_TEXT) {
            Due.same(row[0], Pattern.compile(row[1]).matcher(text).find() ? 1 : 0, 0);
        }
        Class<?>[] inside = SkyAdvisor.class.getDeclaredClasses();
        Due.same("rule 11: at most twelve classes", inside.length + 1 <= 12 ? 1 : 0, 1);
        looksAt(SkyAdvisor.class);
        for (Class<?> one : inside) {
            looksAt(one);
            Due.same("rule 1: " + one + " is static", Modifier.isStatic(one.getModifiers()) ? 1 : 0, 1);
            Due.same("rule 1: " + one + " is not public", Modifier.isPublic(one.getModifiers()) ? 1 : 0, 0);
        }
        methodsAreShort(text.split("\n", -1));
        Due.end();
    }

    private static void looksAt(Class<?> one) {
        int fields = 0;
        for (Field field : one.getDeclaredFields()) {
            if (Modifier.isStatic(field.getModifiers())) {
                Due.same("rule 5: " + field + " is final", Modifier.isFinal(field.getModifiers()) ? 1 : 0, 1);
            } else {
                fields++;
            }
        }
        Due.same("rule 11: " + one + " has at most twenty fields", fields <= 20 ? 1 : 0, 1);
        List<Executable> calls = new ArrayList<>(List.of(one.getDeclaredConstructors()));
        for (Method method : one.getDeclaredMethods()) {
            calls.add(method);
            boolean isOfTheFace = one == SkyAdvisor.class && Modifier.isPublic(method.getModifiers());
            boolean bearsItsName = FACE.contains(method.getName());
            Due.same("rule 1: the name of " + method, bearsItsName ? 1 : 0, isOfTheFace ? 1 : 0);
        }
        for (Executable call : calls) {
            Due.same("rule 11: parameters of " + call, call.getParameterCount() <= 7 ? 1 : 0, 1);
        }
    }

    /** A method ends where its first line's indent comes again with a brace. */
    private static void methodsAreShort(String[] lines) {
        Pattern start = Pattern.compile("( {4}| {8})(?!.*\\bclass\\b)\\w.*\\) (throws \\w+ )?\\{");
        int methods = 0;
        for (int from = 0; from < lines.length; from++) {
            if (start.matcher(lines[from]).matches() && !lines[from].matches(" +(for|if|switch|else)\\b.*")) {
                String end = lines[from].replaceAll("\\S.*", "") + "}";
                int to = from;
                while (to < lines.length - 1 && !lines[to].equals(end)) {
                    to++;
                }
                methods++;
                Due.same("rule 11: sixty lines for" + lines[from], to - from < 60 ? 1 : 0, 1);
            }
        }
        Due.same("methods are found in the text", methods > 40 ? 1 : 0, 1);
    }
}
