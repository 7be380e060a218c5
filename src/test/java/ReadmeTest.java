import java.io.IOException;
import java.nio.file.Files;
import java.nio.file.Path;
import java.util.regex.Matcher;
import java.util.regex.Pattern;

/** README.md's example: each of its calls, asked in its order, answers what the page says. */
public final class ReadmeTest {
    private static final Pattern TEXT = Pattern.compile("\"([^\"]*)\"");
    private static final Pattern ROW = Pattern.compile("put\\(x, ([0-9, ]+)\\); +// .*");
    private static final Pattern CALL = Pattern.compile("x\\.(\\w+)\\(([-0-9, ]*)\\); +// (true|false|-?[0-9]+)\\b.*");

    public static void main(String[] args) throws IOException, ReflectiveOperationException {
        String page = Files.readString(Path.of(System.getProperty("ownchair.root", "."), "README.md"));
        int from = page.indexOf("OwnChair x = new OwnChair();");
        String example = page.substring(from, page.indexOf("```", from));
        OwnChair x = new OwnChair();
        Check.tape(x, text(example));
        int calls = 0;
        for (String line : example.substring(example.indexOf(");\n", example.indexOf("put(x, \""))).split("\n")) {
            Matcher row = ROW.matcher(line);
            Matcher call = CALL.matcher(line);
            if (row.matches()) {
                Check.tape(x, numbers(row.group(1)));
            } else if (call.matches()) {
                Check.due(line, answer(x, call.group(1), numbers(call.group(2))), due(call.group(3)));
                calls++;
            } else {
                Check.due("a line that is no call: " + line, line.equals(");"), true);
            }
        }
        Check.due("calls were found", calls > 15, true);
        eachCallIsTold(page);
        Check.finish();
    }

    private static String text(String example) {
        StringBuilder text = new StringBuilder();
        Matcher part = TEXT.matcher(example);
        while (part.find()) {
            text.append(part.group(1));
        }
        return text.toString();
    }

    private static int[] numbers(String told) {
        String[] parts = told.isEmpty() ? new String[0] : told.split(", ");
        int[] numbers = new int[parts.length];
        for (int i = 0; i < parts.length; i++) {
            numbers[i] = Integer.parseInt(parts[i]);
        }
        return numbers;
    }

    private static int due(String told) {
        return told.equals("true") ? 1 : told.equals("false") ? 0 : Integer.parseInt(told);
    }

    private static int answer(OwnChair x, String name, int[] given) throws ReflectiveOperationException {
        Class<?>[] types = new Class<?>[given.length];
        Object[] values = new Object[given.length];
        for (int i = 0; i < given.length; i++) {
            types[i] = int.class;
            values[i] = given[i];
        }
        Object answer = OwnChair.class.getMethod(name, types).invoke(x, values);
        return answer instanceof Boolean ? Look.bit((Boolean) answer) : (Integer) answer;
    }

    private static void eachCallIsTold(String page) {
        String table = page.substring(page.indexOf("### The calls"), page.indexOf("### The text"));
        for (java.lang.reflect.Method method : OwnChair.class.getDeclaredMethods()) {
            if (java.lang.reflect.Modifier.isPublic(method.getModifiers())) {
                Check.due("the page tells of " + method.getName(), table.contains("`" + method.getName() + "`"), true);
            }
        }
    }
}
