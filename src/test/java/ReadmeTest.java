import java.io.IOException;
import java.lang.reflect.InvocationTargetException;
import java.lang.reflect.Method;
import java.nio.charset.StandardCharsets;
import java.nio.file.Files;
import java.nio.file.Path;
import java.util.regex.Matcher;
import java.util.regex.Pattern;

/** The example in README.md: its text is told, and each of its calls answers what stands behind it. */
public final class ReadmeTest extends Kit {
    private static final Pattern TEXT = Pattern.compile("(?s)```text\n(.*?)```");
    private static final Pattern CALL = Pattern.compile("(?m)^x\\.(\\w+)\\(([^)]*)\\); +// (-?\\d+):");

    public static void main(String[] args) throws IOException, IllegalAccessException, InvocationTargetException {
        String page = Files.readString(Path.of("README.md"), StandardCharsets.UTF_8);
        Matcher text = TEXT.matcher(page);
        due("a text is found", text.find() ? 1 : 0, 1);
        GentleLetters x = new GentleLetters();
        due("its lines", tell(x, text.group(1)), 5);
        Matcher call = CALL.matcher(page);
        int calls = 0;
        while (call.find()) {
            due(call.group(), answer(x, call.group(1), call.group(2)), Long.parseLong(call.group(3)));
            calls++;
        }
        due("calls are found", calls, page.split("(?m)^x\\.").length - 1);
        due("there are some", calls > 0 ? 1 : 0, 1);
        emptiedTape();
        finish();
    }

    /** As the page writes it. */
    private static int tell(GentleLetters x, String text) {
        byte[] bytes = java.util.Arrays.copyOf(text.getBytes(), (text.length() + 19) / 20 * 20);
        java.nio.ByteBuffer fours = java.nio.ByteBuffer.wrap(bytes);
        while (fours.hasRemaining()) {
            x.feed(fours.getInt(), fours.getInt(), fours.getInt(), fours.getInt(), fours.getInt());
        }
        x.end(text.length());
        return x.desk();
    }

    private static long answer(GentleLetters x, String name, String arguments)
            throws IllegalAccessException, InvocationTargetException {
        for (Method method : GentleLetters.class.getMethods()) {
            if (method.getName().equals(name)) {
                String[] words = arguments.isEmpty() ? new String[0] : arguments.split(", ");
                Object[] values = new Object[words.length];
                for (int i = 0; i < words.length; i++) {
                    boolean isLong = method.getParameterTypes()[i] == long.class;
                    values[i] = isLong ? (Object) Long.valueOf(words[i]) : (Object) Integer.valueOf(words[i]);
                }
                return (int) method.invoke(x, values);
            }
        }
        throw new IllegalArgumentException("no method " + name);
    }

    private static void emptiedTape() {
        GentleLetters x = new GentleLetters();
        due("a fault", tell(x, "desk states 3"), -4);
        due("the tape stays", x.count(10), 13);
        due("end(0)", x.end(0), 0);
        due("another text", tell(x, head(2, 0, 1, 0, 0)), 1);
    }
}
