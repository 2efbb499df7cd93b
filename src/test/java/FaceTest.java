import java.io.IOException;
import java.lang.reflect.Constructor;
import java.lang.reflect.Field;
import java.lang.reflect.Method;
import java.lang.reflect.Modifier;
import java.nio.file.Files;
import java.nio.file.Path;
import java.util.Arrays;
import java.util.TreeSet;
import java.util.regex.Matcher;
import java.util.regex.Pattern;
import java.util.stream.Collectors;

/** "The public face" of the document, to the letter: what stands there is public in the class, and nothing else is. */
public final class FaceTest {
    private static final Path DOCUMENT = Path.of("../shared/DOC.md");
    private static final int MEMBERS = 38;

    public static void main(String[] args) throws IOException, IllegalAccessException {
        Matcher block = Pattern.compile("## The public face\\s+```java\\n(.*?)```", Pattern.DOTALL)
                .matcher(Files.readString(DOCUMENT));
        Due.is("the document has the face", block.find() ? 1 : 0, 1);
        head(block.group(1));
        TreeSet<String> due = told(block.group(1));
        TreeSet<String> found = found();
        Due.is("members in the document", due.size(), MEMBERS);
        for (String member : due) {
            Due.is("the class has " + member, found.contains(member) ? 1 : 0, 1);
        }
        for (String member : found) {
            Due.is("the document has " + member, due.contains(member) ? 1 : 0, 1);
        }
        Due.end();
    }

    private static void head(String face) {
        Due.is("public final class", face.startsWith("public final class BeggarsChoose {") ? 1 : 0, 1);
        Due.is("the class is public and final", BeggarsChoose.class.getModifiers(), Modifier.PUBLIC | Modifier.FINAL);
        Due.is("and under no other", BeggarsChoose.class.getSuperclass() == Object.class ? 1 : 0, 1);
        Due.is("without interfaces", BeggarsChoose.class.getInterfaces().length, 0);
        Due.is("without a package", BeggarsChoose.class.getPackageName().length(), 0);
        for (Class<?> inside : BeggarsChoose.class.getDeclaredClasses()) {
            int modifiers = inside.getModifiers();
            Due.is(inside + " is static", Modifier.isStatic(modifiers) ? 1 : 0, 1);
            Due.is(inside + " is closed", modifiers & (Modifier.PUBLIC | Modifier.PROTECTED), 0);
        }
    }

    /** The document's members, without the names of what they take. */
    private static TreeSet<String> told(String face) {
        TreeSet<String> told = new TreeSet<>();
        for (String line : face.split("\n")) {
            String member = line.strip();
            if (member.endsWith(";")) {
                told.add(member.replaceAll("(\\w+) \\w+(?=[,)])", "$1").replaceAll(";$", ""));
            }
        }
        return told;
    }

    /** What the class has that isn't private, told in the same words. */
    private static TreeSet<String> found() throws IllegalAccessException {
        TreeSet<String> found = new TreeSet<>();
        for (Field f : BeggarsChoose.class.getDeclaredFields()) {
            if (!Modifier.isPrivate(f.getModifiers())) {
                found.add(Modifier.toString(f.getModifiers()) + " " + f.getType() + " " + f.getName() + " = " + f.get(null));
            }
        }
        for (Constructor<?> c : BeggarsChoose.class.getDeclaredConstructors()) {
            if (!Modifier.isPrivate(c.getModifiers())) {
                found.add(Modifier.toString(c.getModifiers()) + " " + c.getName() + types(c.getParameterTypes()));
            }
        }
        for (Method m : BeggarsChoose.class.getDeclaredMethods()) {
            if (!Modifier.isPrivate(m.getModifiers())) {
                found.add(Modifier.toString(m.getModifiers()) + " " + m.getReturnType() + " " + m.getName()
                        + types(m.getParameterTypes()));
            }
        }
        return found;
    }

    private static String types(Class<?>[] types) {
        return Arrays.stream(types).map(Class::getName).collect(Collectors.joining(", ", "(", ")"));
    }
}
