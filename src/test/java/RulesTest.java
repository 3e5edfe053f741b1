import java.io.IOException;
import java.lang.reflect.Field;
import java.lang.reflect.Modifier;
import java.nio.charset.StandardCharsets;
import java.nio.file.Files;
import java.nio.file.Path;
import java.util.HashMap;
import java.util.Map;
import java.util.Set;
import java.util.TreeSet;
import java.util.regex.Matcher;
import java.util.regex.Pattern;

/** LANGUAGE.md, rules 4, 5, 7, 8, 11 and 12, as far as the text and the class itself show them. */
public final class RulesTest extends Kit {
    private static final Path PROGRAM = Path.of("src/main/java/GentleLetters.java");
    private static final Set<String> LIBRARY = Set.of("Arrays.fill", "Integer.bitCount", "Integer.numberOfTrailingZeros",
            "Math.max", "Math.min", "System.arraycopy");
    private static final int DEEPEST = 8;
    private static final int LONGEST = 60;
    private static final int MOST_FIELDS = 20;

    /** The bodies of all methods; those of one name in several classes are taken as one, so depths are no less than they are. */
    private static final Map<String, String> BODIES = new HashMap<>();

    public static void main(String[] args) throws IOException {
        String text = Files.readString(PROGRAM, StandardCharsets.UTF_8)
                .replaceAll("(?s)/\\*.*?\\*/", " ").replaceAll("//[^\n]*", " ");
        findBodies(text);
        due("methods are found", BODIES.size() > 150 ? 1 : 0, 1);
        lengths();
        depths();
        library(text);
        madeInConstructorsAlone();
        fields(GentleLetters.class);
        for (Class<?> inside : GentleLetters.class.getDeclaredClasses()) {
            fields(inside);
        }
        finish();
    }

    private static void findBodies(String text) {
        Matcher matcher = Pattern.compile("(?m)^ +(?:public|private) (?:static )?\\w+ (\\w+)\\([^)]*\\) \\{").matcher(text);
        while (matcher.find()) {
            int open = 1;
            int at = matcher.end();
            while (open > 0) {
                open += text.charAt(at) == '{' ? 1 : text.charAt(at) == '}' ? -1 : 0;
                at++;
            }
            BODIES.merge(matcher.group(1), text.substring(matcher.end(), at), String::concat);
        }
    }

    private static void lengths() {
        for (Map.Entry<String, String> body : BODIES.entrySet()) {
            int lines = body.getValue().split("\n").length;
            due("11: lines of " + body.getKey() + ": " + lines, lines <= LONGEST ? 1 : 0, 1);
        }
    }

    private static void depths() {
        for (String name : BODIES.keySet()) {
            int depth = depth(name, new TreeSet<>());
            due("8, 11: calls from " + name + " go " + depth + " deep", depth <= DEEPEST ? 1 : 0, 1);
        }
    }

    /** How many methods stand open at once below this one and with it; one that comes back to itself is far too deep. */
    private static int depth(String name, Set<String> open) {
        if (!open.add(name)) {
            return 1000;
        }
        int most = 0;
        Matcher matcher = Pattern.compile("\\b(\\w+)\\(").matcher(BODIES.get(name));
        while (matcher.find()) {
            // a library method of the same name is no call of ours
            boolean library = matcher.start() > 0 && BODIES.get(name).substring(0, matcher.start()).matches(
                    "(?s).*\\b(Math|Integer|Arrays|System)\\.");
            if (!library && BODIES.containsKey(matcher.group(1))) {
                most = Math.max(most, depth(matcher.group(1), open));
            }
        }
        open.remove(name);
        return most + 1;
    }

    private static void library(String text) {
        Matcher matcher = Pattern.compile("\\b([A-Z][a-z]\\w*)\\.([a-z]\\w*)\\(").matcher(text);
        while (matcher.find()) {
            String call = matcher.group(1) + "." + matcher.group(2);
            due("4: " + call, LIBRARY.contains(call) || BODIES.containsKey(matcher.group(2)) ? 1 : 0, 1);
        }
        due("4: texts are read by length and charAt alone", Pattern.compile(
                "\\btext\\.(?!length\\(|charAt\\()").matcher(text).find() ? 1 : 0, 0);
        due("3: StringBuilder, lists", Pattern.compile("StringBuilder|List\\b|Iterator").matcher(text).find() ? 1 : 0, 0);
    }

    private static void madeInConstructorsAlone() {
        for (Map.Entry<String, String> body : BODIES.entrySet()) {
            due("12: " + body.getKey() + " makes an object", body.getValue().matches("(?s).*\\bnew\\b.*") ? 1 : 0, 0);
        }
    }

    private static void fields(Class<?> inside) {
        int own = 0;
        for (Field field : inside.getDeclaredFields()) {
            if (Modifier.isStatic(field.getModifiers())) {
                due("5: " + field + " is a constant", Modifier.isFinal(field.getModifiers())
                        && field.getType() == int.class ? 1 : 0, 1);
            } else {
                own++;
                due("7: " + field + " is never null", field.getType().isPrimitive()
                        || Modifier.isFinal(field.getModifiers()) ? 1 : 0, 1);
            }
        }
        due("11: fields of " + inside + ": " + own, own <= MOST_FIELDS ? 1 : 0, 1);
    }
}
