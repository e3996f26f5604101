import java.io.IOException;
import java.lang.reflect.InvocationTargetException;
import java.lang.reflect.Method;
import java.nio.charset.StandardCharsets;
import java.nio.file.Files;
import java.nio.file.Path;
import java.util.NoSuchElementException;
import java.util.regex.Matcher;
import java.util.regex.Pattern;

/** Makes the calls of README.md's examples, and compares each answer with the one that stands behind it there. */
public final class ReadmeTest extends Probe {
    private static final Pattern NEW = Pattern.compile("HideSets x = new HideSets\\(\\);");
    private static final Pattern TELL = Pattern.compile("tell\\(x, \"(.*)\"\\);");
    private static final Pattern CALL = Pattern.compile("x\\.(\\w+)\\(([0-9, ]*)\\); +// (-?\\d+|true|false|throws)\\b.*");
    private static final int EXAMPLES = 4;

    private static String answer(HideSets x, String name, String arguments) throws ReflectiveOperationException {
        String[] told = arguments.isEmpty() ? new String[0] : arguments.split(", ");
        Class<?>[] types = new Class<?>[told.length];
        Object[] numbers = new Object[told.length];
        for (int i = 0; i < told.length; i++) {
            types[i] = int.class;
            numbers[i] = Integer.valueOf(told[i]);
        }
        Method call = HideSets.class.getMethod(name, types);
        try {
            return String.valueOf(call.invoke(x, numbers));
        } catch (InvocationTargetException e) {
            return e.getCause() instanceof NoSuchElementException ? "throws" : e.getCause().toString();
        }
    }

    public static void main(String[] args) throws IOException, ReflectiveOperationException {
        HideSets x = null;
        int examples = 0;
        boolean isExample = false;
        for (String line : Files.readAllLines(Path.of("README.md"), StandardCharsets.ISO_8859_1)) {
            Matcher tell = TELL.matcher(line);
            Matcher call = CALL.matcher(line);
            if (NEW.matcher(line).matches()) {
                x = new HideSets();
                isExample = true;
                examples++;
                sentence("README, example " + examples);
            } else if (line.startsWith("```")) {
                isExample = false;
            } else if (isExample && tell.matches()) {
                tell(x, tell.group(1).replace("\\n", "\n"));
            } else if (isExample && call.matches()) {
                due(line, answer(x, call.group(1), call.group(2)), call.group(3));
            } else if (isExample) {
                due("not understood: " + line, false, true);
            }
        }
        due("examples", examples, EXAMPLES);
        close("examples of README.md");
    }
}
