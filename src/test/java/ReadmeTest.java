import java.io.IOException;
import java.lang.reflect.Method;
import java.lang.reflect.Modifier;
import java.nio.file.Files;
import java.nio.file.Path;
import java.util.regex.Matcher;
import java.util.regex.Pattern;

/** README.md: its calls answer as it says, and it names each method of the face. */
public final class ReadmeTest {
    private static final Check CHECK = new Check("ReadmeTest");
    private static final Pattern CALL = Pattern.compile("x\\.(\\w+)\\((.*?)\\); *// (-?\\w+):.*");

    public static void main(String[] args) throws IOException, ReflectiveOperationException {
        String page = Files.readString(Path.of("README.md"));
        BeaconWall x = new BeaconWall();
        int calls = 0;
        for (String line : page.split("\n")) {
            Matcher m = CALL.matcher(line);
            if (m.matches()) {
                calls++;
                answersAsSaid(x, m.group(1), m.group(2), m.group(3));
            } else {
                CHECK.due("a call without its answer: " + line, line.startsWith("x."), false);
            }
        }
        CHECK.due("it has calls", calls > 0, true);
        for (Method method : BeaconWall.class.getDeclaredMethods()) {
            if (Modifier.isPublic(method.getModifiers())) {
                CHECK.due("it names " + method.getName(), page.contains("`" + method.getName() + "`"), true);
            }
        }
        CHECK.finish();
    }

    private static void answersAsSaid(BeaconWall x, String name, String given, String said) throws ReflectiveOperationException {
        String[] words = given.isEmpty() ? new String[0] : given.split(", ");
        for (Method method : BeaconWall.class.getDeclaredMethods()) {
            if (Modifier.isPublic(method.getModifiers()) && method.getName().equals(name) && method.getParameterCount() == words.length) {
                Object[] values = new Object[words.length];
                for (int i = 0; i < words.length; i++) {
                    boolean isNumber = method.getParameterTypes()[i] == int.class;
                    values[i] = isNumber ? (Object) Integer.decode(words[i]) : (Object) Boolean.valueOf(words[i]);
                }
                String answer = String.valueOf(method.invoke(x, values));
                CHECK.due(name + "(" + given + ") answered " + answer + ", " + said, answer.equals(said), true);
                return;
            }
        }
        CHECK.due("there is a " + name + " of " + words.length, false, true);
    }
}
