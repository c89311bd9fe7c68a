import java.lang.reflect.InvocationTargetException;
import java.lang.reflect.Method;
import java.lang.reflect.Modifier;
import java.nio.file.Files;
import java.nio.file.Path;
import java.util.regex.Matcher;
import java.util.regex.Pattern;

/** The run of calls in README.md answers as is written there, and its file is the one shown. */
public final class ReadmeTest {
    private static final Pattern CALL = Pattern.compile("x\\.(\\w+)\\((.*)\\); *// (.*)");

    public static void main(String[] args) throws Exception {
        String text = Files.readString(Path.of("README.md"));
        RevisionWrite x = new RevisionWrite();
        String file = "";
        String[] lines = block(text, "java").split("\n");
        Check.due("the first line", lines[0], "RevisionWrite x = new RevisionWrite();");
        for (int i = 1; i < lines.length; i++) {
            Matcher call = CALL.matcher(lines[i]);
            Check.due("a call and its answer: " + lines[i], call.matches(), true);
            if (!call.matches()) {
                continue;
            }
            Object got = answer(x, call.group(1), call.group(2));
            if (got != null) {
                Check.due(lines[i], String.valueOf(got), call.group(3).split(":")[0]);
            }
            if (call.group(1).equals("append")) {
                file = Check.fileOf(x);
            }
        }
        Check.due("the file behind append()", file, block(text, "text"));
        everyCallIsNamed(text);
        Check.end();
    }

    private static String block(String text, String kind) {
        Matcher found = Pattern.compile("(?s)```" + kind + "\n(.*?)```").matcher(text);
        return found.find() ? found.group(1) : "";
    }

    private static Object answer(RevisionWrite x, String name, String given)
            throws IllegalAccessException, InvocationTargetException {
        for (Method m : RevisionWrite.class.getMethods()) {
            if (m.getName().equals(name)) {
                return m.invoke(x, values(m.getParameterTypes(), given));
            }
        }
        return "no such call";
    }

    private static Object[] values(Class<?>[] types, String given) {
        String[] words = given.replace("(byte) ", "").split(", ");
        Object[] values = new Object[types.length];
        for (int i = 0; i < types.length; i++) {
            int value = Integer.parseInt(words[i]);
            if (types[i] == byte.class) {
                values[i] = (byte) value;
            } else {
                values[i] = value;
            }
        }
        return values;
    }

    private static void everyCallIsNamed(String text) {
        for (Method m : RevisionWrite.class.getDeclaredMethods()) {
            if (Modifier.isPublic(m.getModifiers())) {
                Check.due("README.md names " + m.getName(), text.contains("`" + m.getName() + "("), true);
            }
        }
    }
}
