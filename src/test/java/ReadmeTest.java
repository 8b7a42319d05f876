import java.lang.reflect.Method;
import java.nio.file.Files;
import java.nio.file.Path;
import java.util.regex.Matcher;
import java.util.regex.Pattern;

/** Does the calls that README.md shows, and looks whether each answers the number behind it. */
public final class ReadmeTest extends NetTest {
    private static final Pattern BLOCK = Pattern.compile("```java\n(.*?)```", Pattern.DOTALL);
    private static final Pattern CALL = Pattern.compile("x\\.(\\w+)\\(([^)]*)\\);\\s*// (-?\\d+)\\b.*");

    private static Method methodOf(String name) {
        for (Method m : PostProofs.class.getMethods()) {
            if (m.getName().equals(name)) {
                return m;
            }
        }
        return null;
    }

    private static Object[] argumentsOf(String text) {
        if (text.isEmpty()) {
            return new Object[0];
        }
        String[] words = text.split(", ");
        Object[] arguments = new Object[words.length];
        for (int i = 0; i < words.length; i++) {
            boolean is = words[i].equals("true") || words[i].equals("false");
            arguments[i] = is ? (Object) Boolean.valueOf(words[i]) : (Object) Integer.valueOf(words[i]);
        }
        return arguments;
    }

    public static void main(String[] args) throws Exception {
        about = "README.md";
        Matcher block = BLOCK.matcher(Files.readString(Path.of("README.md")));
        due("a block of calls", block.find() ? 1 : 0, 1);
        String[] rows = block.group(1).split("\n");
        due("the first row's making an object", rows[0].equals("PostProofs x = new PostProofs();") ? 1 : 0, 1);
        PostProofs x = new PostProofs();
        for (int i = 1; i < rows.length; i++) {
            Matcher call = CALL.matcher(rows[i]);
            if (!call.matches()) {
                due("'" + rows[i] + "' as a call with its answer", 0, 1);
                continue;
            }
            Number got = (Number) methodOf(call.group(1)).invoke(x, argumentsOf(call.group(2)));
            due(rows[i], got.longValue(), Long.parseLong(call.group(3)));
        }
        end();
    }
}
