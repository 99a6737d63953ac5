import java.io.File;
import java.lang.reflect.Field;
import java.lang.reflect.Method;
import java.lang.reflect.Modifier;
import java.nio.file.Files;
import java.nio.file.Path;
import java.util.regex.Matcher;
import java.util.regex.Pattern;

/** README.md: its example answers what it says, and no call, constant or test is missing in it. */
public final class ReadmeTest {
    private static final Pattern BLOCK = Pattern.compile("```java\n(.*?)```", Pattern.DOTALL);
    private static final Pattern MAKING = Pattern.compile("TwofoldAmounts x = new TwofoldAmounts\\((.*?)\\);.*");
    private static final Pattern CALL = Pattern.compile("x\\.(\\w+)\\((.*?)\\); +// (.*)");
    private static final Pattern ANSWER = Pattern.compile("(-?[0-9]+|true|false|[A-Z_]+)(: .*)?");
    private static final Pattern REGISTER = Pattern.compile("register ([0-7]) is (\\S+) ([A-F]{3}) (fast|wide)");
    private static final Pattern TEXT = Pattern.compile("the text is \"(.*)\"");

    public static void main(String[] args) throws Exception {
        String readme = Files.readString(Path.of("README.md"));
        namesEveryMember(readme);
        namesEveryTest(readme);
        Checks.due("README.md tells of .ci/run", readme.contains("\n    .ci/run\n"), true);
        Matcher block = BLOCK.matcher(readme);
        Checks.due("README.md has an example", block.find(), true);
        runExample(block.group(1));
        Checks.done();
    }

    private static void namesEveryMember(String readme) throws Exception {
        for (Method method : TwofoldAmounts.class.getMethods()) {
            if (method.getDeclaringClass() == TwofoldAmounts.class) {
                String name = method.getName();
                Checks.due("README.md shows " + name, readme.contains("x." + name + "("), true);
                Checks.due("README.md explains " + name, Pattern.compile("\n\\| .*`" + name + "\\([^|]*\\)`.* \\| .*\\|\n").matcher(readme).find(), true);
            }
        }
        for (Field field : TwofoldAmounts.class.getFields()) {
            String row = "| `" + field.getName() + "` (" + field.getInt(null) + ") |";
            Checks.due("README.md has the row " + row, readme.contains(row), true);
        }
    }

    private static void namesEveryTest(String readme) {
        for (String file : new File("src/test/java").list()) {
            if (file.endsWith("Test.java")) {
                String name = file.replace(".java", "");
                Checks.due("README.md tells of " + name, Pattern.compile("\n- .*`" + name + "`.*:").matcher(readme).find(), true);
            }
        }
    }

    private static void runExample(String example) throws Exception {
        TwofoldAmounts x = null;
        for (String line : example.split("\n")) {
            Matcher making = MAKING.matcher(line);
            Matcher call = CALL.matcher(line);
            if (making.matches()) {
                Object[] values = values(making.group(1), new Class<?>[] {int.class, int.class, int.class});
                x = new TwofoldAmounts((int) values[0], (int) values[1], (int) values[2]);
            } else if (call.matches()) {
                runCall(x, call.group(1), call.group(2), call.group(3));
            } else {
                Checks.due("a line of the example: " + line, line.isEmpty(), true);
            }
        }
    }

    private static void runCall(TwofoldAmounts x, String name, String values, String told) throws Exception {
        Method method = method(name);
        Object got = method.invoke(x, values(values, method.getParameterTypes()));
        String call = name + "(" + values + ")";
        Matcher answer = ANSWER.matcher(told);
        Checks.due(call + " has an answer", answer.matches(), got != null);
        if (got != null) {
            Checks.due(call, got.toString(), answered(answer.group(1)));
        }
        Matcher register = REGISTER.matcher(told);
        while (register.find()) {
            int r = Integer.parseInt(register.group(1));
            int kind = register.group(3).charAt(0) - 'A' + (register.group(4).equals("wide") ? 8 : 0);
            Checks.due(call + ": register " + r, Asked.value(x, r), register.group(2));
            Checks.due(call + ": kind of " + r, x.kind(r), kind);
        }
        Matcher text = TEXT.matcher(told);
        if (text.find()) {
            Checks.due(call + ": the text", Asked.text(x), text.group(1));
        }
    }

    private static Method method(String name) {
        for (Method method : TwofoldAmounts.class.getDeclaredMethods()) {
            if (method.getName().equals(name) && Modifier.isPublic(method.getModifiers())) {
                return method;
            }
        }
        throw new IllegalStateException("the example calls " + name);
    }

    /** A refusal stands in the example by its name. */
    private static String answered(String told) throws Exception {
        boolean named = Character.isUpperCase(told.charAt(0));
        return named ? String.valueOf(TwofoldAmounts.class.getField(told).getInt(null)) : told;
    }

    private static Object[] values(String list, Class<?>[] types) {
        String[] parts = list.isEmpty() ? new String[0] : list.split(", ");
        Object[] values = new Object[types.length];
        for (int i = 0; i < types.length; i++) {
            if (types[i] == boolean.class) {
                values[i] = Boolean.parseBoolean(parts[i]);
            } else if (types[i] == long.class) {
                values[i] = Long.parseLong(parts[i]);
            } else {
                values[i] = Integer.parseInt(parts[i]);
            }
        }
        return values;
    }
}
