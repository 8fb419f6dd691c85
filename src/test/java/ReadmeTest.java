import java.io.IOException;
import java.lang.reflect.Method;
import java.nio.file.Files;
import java.nio.file.Path;
import java.util.regex.Matcher;
import java.util.regex.Pattern;

/** The class gives the answers that stand behind the calls of README.md's example. */
public final class ReadmeTest {
    private static final Pattern CALL = Pattern.compile("bench\\.(\\w+)\\((.*)\\); *// ([^:]+): .+");

    public static void main(String[] args) throws IOException, ReflectiveOperationException {
        Check check = new Check("readme");
        GaugeBench bench = new GaugeBench();
        for (String line : Files.readAllLines(Path.of("README.md"))) {
            if (line.startsWith("bench.")) {
                Matcher call = CALL.matcher(line);
                check.same("its form: " + line, true, call.matches());
                check.same(line, call.group(3), String.valueOf(answer(bench, call.group(1), call.group(2))));
            }
        }
        check.end();
    }

    private static Object answer(GaugeBench bench, String name, String written)
            throws ReflectiveOperationException {
        String[] words = written.isEmpty() ? new String[0] : written.split(", ");
        Class<?>[] types = new Class<?>[words.length];
        Object[] arguments = new Object[words.length];
        for (int i = 0; i < words.length; i++) {
            types[i] = int.class;
            arguments[i] = Integer.valueOf(words[i]);
        }
        Method method = GaugeBench.class.getMethod(name, types);
        return method.invoke(bench, arguments);
    }
}
