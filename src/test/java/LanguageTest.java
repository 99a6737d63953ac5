import java.lang.reflect.Constructor;
import java.lang.reflect.Field;
import java.lang.reflect.Method;
import java.lang.reflect.Modifier;
import java.nio.file.Files;
import java.nio.file.Path;
import java.util.ArrayList;
import java.util.List;
import java.util.Set;
import java.util.regex.Matcher;
import java.util.regex.Pattern;

/** The rules of LANGUAGE.md that can be counted, or found by a word, in the program. */
public final class LanguageTest {
    private static final Set<String> LIBRARY = Set.of(
        "Integer.compare", "Long.compare", "Math.abs", "Math.max", "Math.min", "Math.floorDiv", "Math.floorMod",
        "System.arraycopy", "Arrays.fill", "Arrays.copyOf", "Arrays.copyOfRange");
    private static final String[] NEVER = {
        "\\bthrow\\b", "\\bthrows\\b", "\\btry\\b", "\\bcatch\\b", "\\bfinally\\b", "\\bsynchronized\\b", "\\bassert\\b",
        "->", "::", "\\bstatic \\{", "\\bpackage\\b", "\\bprotected\\b", "\\bvolatile\\b", "\\bnative\\b", "\\bObject\\b",
        "\\bequals\\b", "\\bhashCode\\b", "\\btoString\\b", "\\w+Exact\\b", "\\w+Exception\\b", "\\bThread\\b",
        "\\bRandom\\b", "\\bMap\\b", "\\bvar\\b"
    };

    public static void main(String[] args) throws Exception {
        String whole = Files.readString(Path.of("src/main/java/TwofoldAmounts.java"));
        String source = plain(whole);
        rule4(source);
        rule6(source);
        rule11Lengths(source);
        List<Class<?>> classes = new ArrayList<>(List.of(TwofoldAmounts.class));
        classes.addAll(List.of(TwofoldAmounts.class.getDeclaredClasses()));
        Checks.sentence("rule 11: some twelve classes");
        Checks.due("classes", classes.size() <= 12, true);
        for (Class<?> type : classes) {
            rules1And2(type);
            rule5(type);
            rule11(type);
        }
        Checks.done();
    }

    /** The source without what comments, texts and characters say. */
    private static String plain(String source) {
        String code = source.replaceAll("(?s)/\\*.*?\\*/", " ").replaceAll("//[^\n]*", " ");
        return code.replaceAll("'(\\\\.|[^'\\\\])'", "' '").replaceAll("\"(\\\\.|[^\"\\\\])*\"", "\"\"");
    }

    private static void rules1And2(Class<?> type) {
        if (type == TwofoldAmounts.class) {
            return;
        }
        Checks.sentence("rules 1 and 2: classes inside are static, private or package-visible, and hold no others");
        int modifiers = type.getModifiers();
        Checks.due(type + " static", Modifier.isStatic(modifiers), true);
        Checks.due(type + " visible", Modifier.isPublic(modifiers) || Modifier.isProtected(modifiers), false);
        Checks.due(type + " classes inside", type.getDeclaredClasses().length, 0);
    }

    private static void rule4(String source) {
        Checks.sentence("rule 4: the library: only what stands here");
        Matcher imports = Pattern.compile("import ([\\w.*]+);").matcher(source);
        while (imports.find()) {
            Checks.due(imports.group(), Set.of("java.util.Arrays", "java.util.ArrayList", "java.util.List").contains(imports.group(1)), true);
        }
        Matcher uses = Pattern.compile("\\b(Integer|Long|Math|System|Arrays|Character|Short|Byte|Boolean)\\.(\\w+)").matcher(source);
        while (uses.find()) {
            Checks.due(uses.group(), LIBRARY.contains(uses.group()), true);
        }
    }

    private static void rule5(Class<?> type) {
        Checks.sentence("rule 5: static fields are final: constants and arrays of numbers");
        Set<Class<?>> allowed = Set.of(int.class, long.class, boolean.class, char.class, String.class,
            int[].class, long[].class, char[].class, byte[].class);
        for (Field field : type.getDeclaredFields()) {
            if (Modifier.isStatic(field.getModifiers()) && !field.isSynthetic()) {
                Checks.due(field.toString(), Modifier.isFinal(field.getModifiers()) && allowed.contains(field.getType()), true);
            }
        }
    }

    private static void rule6(String source) {
        Checks.sentence("rules 2, 6 and 13: words that do not stand in the program");
        for (String word : NEVER) {
            Matcher seen = Pattern.compile(word).matcher(source);
            Checks.due(word, seen.find(), false);
        }
    }

    private static void rule11(Class<?> type) {
        Checks.sentence("rule 11: seven parameters, some twenty fields");
        for (Method method : type.getDeclaredMethods()) {
            Checks.due(method.toString(), method.getParameterCount() <= 7, true);
        }
        for (Constructor<?> maker : type.getDeclaredConstructors()) {
            Checks.due(maker.toString(), maker.getParameterCount() <= 7, true);
        }
        int fields = 0;
        for (Field field : type.getDeclaredFields()) {
            fields += Modifier.isStatic(field.getModifiers()) ? 0 : 1;
        }
        Checks.due("fields of " + type, fields <= 20, true);
    }

    /** A method's lines are those from its head to the brace that stands as far in as the head. */
    private static void rule11Lengths(String source) {
        Checks.sentence("rule 11: methods stay short (some sixty lines)");
        String[] lines = source.split("\n");
        Pattern head = Pattern.compile("(    |        )[a-z][^=;]*\\) \\{");
        int methods = 0;
        for (int i = 0; i < lines.length; i++) {
            Matcher matcher = head.matcher(lines[i]);
            if (matcher.matches() && !lines[i].trim().matches("(if|for|while|switch|do)\\b.*")) {
                int end = i;
                while (end < lines.length && !lines[end].equals(matcher.group(1) + "}")) {
                    end++;
                }
                Checks.due(lines[i].trim() + " lines", end - i + 1 <= 60, true);
                methods++;
            }
        }
        Checks.due("methods were seen", methods > 40, true);
    }
}
