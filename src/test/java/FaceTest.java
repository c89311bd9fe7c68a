import java.lang.reflect.Constructor;
import java.lang.reflect.Field;
import java.lang.reflect.Member;
import java.lang.reflect.Method;
import java.lang.reflect.Modifier;
import java.nio.file.Files;
import java.nio.file.Path;
import java.util.Arrays;
import java.util.Set;
import java.util.TreeSet;
import java.util.regex.Matcher;
import java.util.regex.Pattern;

/** The class's face as the document writes it, and those rules of LANGUAGE.md that a look at the text can tell. */
public final class FaceTest {
    private static final String[] FACE = {
        "void object(int,int) throws IndexOutOfBoundsException,IllegalArgumentException",
        "byte octet(int,int,byte) throws IndexOutOfBoundsException",
        "boolean drop(int) throws IndexOutOfBoundsException",
        "boolean first(int,boolean) throws IndexOutOfBoundsException",
        "int write(int) throws IllegalArgumentException,UnsupportedOperationException",
        "int append() throws IllegalStateException,UnsupportedOperationException",
        "int read() throws ",
        "byte poke(int,byte) throws IndexOutOfBoundsException",
        "int take(int) throws IndexOutOfBoundsException",
        "byte at(int) throws IndexOutOfBoundsException",
        "int length(int) throws IndexOutOfBoundsException",
        "byte byteOf(int,int) throws IndexOutOfBoundsException",
        "int size(int) throws IndexOutOfBoundsException",
        "int place(int,int) throws IndexOutOfBoundsException",
        "int differ(int,int) throws IndexOutOfBoundsException",
        "int row(int,int) throws IndexOutOfBoundsException",
        "int told(int) throws ",
    };

    public static void main(String[] args) throws Exception {
        face();
        text(Files.readString(Path.of("src/main/java/RevisionWrite.java")));
        Check.end();
    }

    private static void face() {
        Class<?> c = RevisionWrite.class;
        Check.due("public final", Modifier.isPublic(c.getModifiers()) && Modifier.isFinal(c.getModifiers()), true);
        Check.due("NONE", RevisionWrite.NONE, -1);
        Set<String> open = new TreeSet<>();
        for (Method m : c.getDeclaredMethods()) {
            if (!Modifier.isPrivate(m.getModifiers())) {
                Check.due(m.getName() + " is public", Modifier.isPublic(m.getModifiers()), true);
                open.add(m.getReturnType().getSimpleName() + " " + m.getName() + "(" + names(m.getParameterTypes())
                    + ") throws " + names(m.getExceptionTypes()));
            }
        }
        Check.due("methods", open.toString(), new TreeSet<>(Arrays.asList(FACE)).toString());
        Set<String> fields = new TreeSet<>();
        for (Field f : c.getDeclaredFields()) {
            addOpen(fields, f);
        }
        Check.due("fields", fields.toString(), "[NONE]");
        Constructor<?>[] made = c.getDeclaredConstructors();
        Check.due("constructors", made.length, 1);
        Check.due("the constructor's parameters", made[0].getParameterCount(), 0);
        for (Class<?> inside : c.getDeclaredClasses()) {
            noSecondMeaning(inside);
        }
    }

    private static void noSecondMeaning(Class<?> inside) {
        for (Method m : inside.getDeclaredMethods()) {
            boolean taken = false;
            for (String line : FACE) {
                taken |= line.contains(" " + m.getName() + "(");
            }
            Check.due("a name of the face in " + inside.getSimpleName() + ": " + m.getName(), taken, false);
        }
    }

    private static void addOpen(Set<String> names, Member member) {
        if (!Modifier.isPrivate(member.getModifiers())) {
            names.add(member.getName());
        }
    }

    private static String names(Class<?>[] types) {
        StringBuilder text = new StringBuilder();
        for (Class<?> type : types) {
            text.append(text.length() == 0 ? "" : ",").append(type.getSimpleName());
        }
        return text.toString();
    }

    private static void text(String source) {
        String code = source.replaceAll("(?s)/\\*.*?\\*/", "").replaceAll("//[^\n]*", "").replaceAll("\"[^\"\n]*\"", "\"\"");
        absent(code, "->|::");
        absent(code, "\\b(try|catch|finally|synchronized|assert|package|var|static\\s*\\{)");
        absent(code, "\\b(String|List|ArrayList|Integer|Long|System\\.(?!arraycopy)\\w+)\\b");
        absent(code, "\\b\\w+Exact\\b");
        absent(code, "import (?!java\\.util\\.Arrays;)");
        absent(code, "Arrays\\.(?!fill\\b)\\w");
        absent(code, "Math\\.(?!min\\b)\\w");
    }

    private static void absent(String code, String pattern) {
        Matcher found = Pattern.compile(pattern).matcher(code);
        Check.due("in the source: " + pattern, found.find() ? found.group() : "", "");
    }
}
