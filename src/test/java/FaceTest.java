import java.io.IOException;
import java.lang.reflect.Constructor;
import java.lang.reflect.Field;
import java.lang.reflect.Method;
import java.lang.reflect.Modifier;
import java.nio.charset.StandardCharsets;
import java.nio.file.Files;
import java.nio.file.Path;
import java.util.HashSet;
import java.util.Set;
import java.util.TreeSet;
import java.util.regex.Matcher;
import java.util.regex.Pattern;

/** The class has the document's face and no other, and keeps to the rules of the language that a text search can see. */
public final class FaceTest {
    private static final Path PROGRAM = Path.of("src/main/java/GentleLetters.java");
    private static final Path DOCUMENT = Path.of("../shared/DOC.md");

    public static void main(String[] args) throws IOException {
        faceOfTheDocument();
        noOtherMembers();
        forbiddenSigns();
        Kit.finish();
    }

    private static void faceOfTheDocument() throws IOException {
        if (!Files.exists(DOCUMENT)) {
            System.out.println("the document is not here: its face is not compared");
            return;
        }
        String text = Files.readString(DOCUMENT, StandardCharsets.UTF_8);
        Matcher matcher = Pattern.compile("(?m)^    public int (\\w+)\\(([^)]*)\\);$").matcher(text);
        Set<String> due = new TreeSet<>();
        while (matcher.find()) {
            due.add(matcher.group(1) + "(" + matcher.group(2).replaceAll(" \\w+(, |$)", "$1").replace(", ", ",") + ")");
        }
        Set<String> got = new TreeSet<>();
        for (Method method : GentleLetters.class.getDeclaredMethods()) {
            if (Modifier.isPublic(method.getModifiers()) && method.getReturnType() == int.class) {
                StringBuilder name = new StringBuilder(method.getName()).append('(');
                for (Class<?> type : method.getParameterTypes()) {
                    name.append(name.charAt(name.length() - 1) == '(' ? "" : ",").append(type.getName());
                }
                got.add(name.append(')').toString());
            }
        }
        Kit.due("methods of the document", due.size(), 71);
        Kit.due("the methods are the document's: " + got, got.equals(due) ? 1 : 0, 1);
    }

    private static void noOtherMembers() {
        Set<String> open = new HashSet<>();
        for (Method method : GentleLetters.class.getDeclaredMethods()) {
            if (Modifier.isPublic(method.getModifiers())) {
                open.add(method.getName());
            } else {
                Kit.due(method + " is private", Modifier.isPrivate(method.getModifiers()) ? 1 : 0, 1);
            }
        }
        for (Field field : GentleLetters.class.getDeclaredFields()) {
            boolean due = Modifier.isPrivate(field.getModifiers()) || field.getName().equals("NONE");
            Kit.due(field + " is private or NONE", due ? 1 : 0, 1);
        }
        Constructor<?>[] constructors = GentleLetters.class.getDeclaredConstructors();
        Kit.due("one constructor", constructors.length, 1);
        Kit.due("final", Modifier.isFinal(GentleLetters.class.getModifiers()) ? 1 : 0, 1);
        Kit.due("classes", GentleLetters.class.getDeclaredClasses().length + 1 <= 12 ? 1 : 0, 1);
        for (Class<?> inside : GentleLetters.class.getDeclaredClasses()) {
            Kit.due(inside + " is static", Modifier.isStatic(inside.getModifiers()) ? 1 : 0, 1);
            for (Method method : inside.getDeclaredMethods()) {
                Kit.due(method + " has a name of its own", open.contains(method.getName()) ? 1 : 0, 0);
                Kit.due(method + " has at most seven parameters", method.getParameterCount() <= 7 ? 1 : 0, 1);
            }
        }
    }

    private static void forbiddenSigns() throws IOException {
        String text = Files.readString(PROGRAM, StandardCharsets.UTF_8)
                .replaceAll("(?s)/\\*.*?\\*/", " ").replaceAll("//[^\n]*", " ");
        String[] words = {"throw", "throws", "try", "catch", "finally", "synchronized", "assert", "protected", "package"};
        for (String word : words) {
            Kit.due(word + " stands in the program", Pattern.compile("\\b" + word + "\\b").matcher(text).find() ? 1 : 0, 0);
        }
        Kit.due("lambdas or method references", text.contains("->") || text.contains("::") ? 1 : 0, 0);
        Kit.due("Exact functions", text.contains("Exact(") ? 1 : 0, 0);
        Set<String> imports = new HashSet<>();
        Matcher matcher = Pattern.compile("import ([\\w.]+);").matcher(text);
        while (matcher.find()) {
            imports.add(matcher.group(1));
        }
        Kit.due("imports " + imports, imports.equals(Set.of("java.util.Arrays")) ? 1 : 0, 1);
        for (int i = 0; i < text.length(); i++) {
            if (text.charAt(i) > 126) {
                Kit.due("sign at " + i, text.charAt(i), ' ');
            }
        }
    }
}
