import java.io.IOException;
import java.lang.reflect.Method;
import java.lang.reflect.Modifier;
import java.nio.file.Files;
import java.nio.file.Path;
import java.util.Set;
import java.util.TreeSet;
import java.util.regex.Matcher;
import java.util.regex.Pattern;

/** The example in README.md answers what stands there, call by call, and leaves no call of the face out. */
public final class ReadmeTest {
    private static final Pattern TEXT = Pattern.compile("for \\(char c : \"([^\"]*)\"\\.toCharArray\\(\\)\\) \\{");
    private static final Pattern CALL = Pattern.compile("tables\\.(\\w+)\\(([-0-9, ]*)\\); +// (-?\\d+|[A-Z]+):.*");
    private static final Check CHECK = new Check();

    public static void main(String[] args) throws IOException, ReflectiveOperationException {
        TuningTables tables = new TuningTables();
        Set<String> told = new TreeSet<>();
        for (String line : Files.readAllLines(Path.of("README.md"))) {
            Matcher text = TEXT.matcher(line);
            if (text.matches()) {
                spell(tables, text.group(1));
                told.add("sign");
            }
            Matcher call = CALL.matcher(line);
            if (call.matches()) {
                ask(tables, call.group(1), call.group(2), call.group(3));
                told.add(call.group(1));
            }
        }
        for (Method method : TuningTables.class.getDeclaredMethods()) {
            CHECK.holds("the example has " + method.getName(), told.contains(method.getName()) || !Modifier.isPublic(method.getModifiers()));
        }
        CHECK.end();
    }

    private static void spell(TuningTables tables, String text) {
        for (int at = 0; at < text.length(); at++) {
            CHECK.due("sign in '" + text + "' at " + at, tables.sign(text.charAt(at)), at + 1);
        }
    }

    private static void ask(TuningTables tables, String name, String listed, String answer) throws ReflectiveOperationException {
        String[] numbers = listed.isEmpty() ? new String[0] : listed.split(", ");
        Object[] arguments = new Object[numbers.length];
        Class<?>[] types = new Class<?>[numbers.length];
        for (int at = 0; at < numbers.length; at++) {
            arguments[at] = Integer.parseInt(numbers[at]);
            types[at] = int.class;
        }
        int got = (int) TuningTables.class.getMethod(name, types).invoke(tables, arguments);
        CHECK.due(name + "(" + listed + ")", got, value(answer));
    }

    private static int value(String answer) throws ReflectiveOperationException {
        boolean constant = Character.isLetter(answer.charAt(0));
        return constant ? TuningTables.class.getField(answer).getInt(null) : Integer.parseInt(answer);
    }
}
