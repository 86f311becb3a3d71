import java.io.IOException;
import java.lang.reflect.Method;
import java.lang.reflect.Modifier;
import java.nio.file.Files;
import java.nio.file.Path;
import java.util.regex.Matcher;
import java.util.regex.Pattern;

/** README.md tells how to use the class: its examples answer what it says, and it names every call. */
public final class ReadmeTest extends Checks {
    private static final Pattern EXAMPLES = Pattern.compile("```java\n(.*?)```", Pattern.DOTALL);
    private static final Pattern CALL = Pattern.compile("x\\.(\\w+)\\(([^()]*)\\);\\s+// (-?\\d+)(:.*)?");
    private static final String MAKING = "LeftHands x = new LeftHands();";

    private ReadmeTest() { }

    public static void main(String[] args) throws IOException, ReflectiveOperationException {
        String readme = Files.readString(Path.of("README.md"));
        about("the examples");
        LeftHands x = null;
        Matcher examples = EXAMPLES.matcher(readme);
        while (examples.find()) {
            for (String line : examples.group(1).split("\n")) {
                if (line.equals(MAKING)) x = new LeftHands();
                else call(x, line);
            }
        }
        about("README.md");
        if (x == null) fault("shows no object");
        for (Method m : LeftHands.class.getDeclaredMethods()) {
            if (Modifier.isPublic(m.getModifiers()) && !readme.contains("`" + m.getName() + "`")) fault(m.getName() + " is not named");
        }
        end();
    }

    private static void call(LeftHands x, String line) throws ReflectiveOperationException {
        about(line);
        Matcher call = CALL.matcher(line);
        if (x == null || !call.matches()) {
            fault("no call with its answer");
            return;
        }
        String[] told = call.group(2).isEmpty() ? new String[0] : call.group(2).split(", ");
        Class<?>[] types = new Class<?>[told.length];
        Object[] values = new Object[told.length];
        for (int i = 0; i < told.length; i++) {
            types[i] = int.class;
            values[i] = told[i].equals("LeftHands.NONE") ? NONE : Integer.decode(told[i]);
        }
        is((Integer) LeftHands.class.getMethod(call.group(1), types).invoke(x, values), Integer.parseInt(call.group(3)));
    }
}
