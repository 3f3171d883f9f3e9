import java.io.IOException;
import java.lang.reflect.Method;
import java.nio.file.Files;
import java.nio.file.Path;
import java.util.regex.Matcher;
import java.util.regex.Pattern;

/** The calls that README.md shows: each one is made, and must answer what stands behind it there. */
public final class ReadmeTest {
    private static final Pattern CALL = Pattern.compile("    press\\.(\\w+)\\((.*)\\);\\s*// (-?\\d+)(:.*)?");

    public static void main(String[] args) throws IOException, ReflectiveOperationException {
        EmbossPress press = new EmbossPress();
        int shown = 0;
        for (String line : Files.readString(Path.of("README.md")).split("\n")) {
            Matcher call = CALL.matcher(line);
            if (call.matches()) {
                shown++;
                Check.dueOutcome("README.md: " + line.strip(), answer(press, call.group(1), call.group(2)), call.group(3));
            } else if (line.startsWith("    press.")) {
                Check.tell("README.md tells no answer: " + line.strip());
            }
        }
        Check.due("README.md shows calls", shown > 0 ? 1 : 0, 1);
        Check.end();
    }

    private static String answer(EmbossPress press, String name, String list) throws ReflectiveOperationException {
        String[] texts = list.isEmpty() ? new String[0] : list.split(", ");
        Class<?>[] types = new Class<?>[texts.length];
        Object[] values = new Object[texts.length];
        for (int i = 0; i < texts.length; i++) {
            types[i] = int.class;
            values[i] = texts[i].startsWith("'") ? texts[i].charAt(1) : Integer.parseInt(texts[i]);
        }
        Method method = EmbossPress.class.getMethod(name, types);
        return String.valueOf(method.invoke(press, values));
    }
}
