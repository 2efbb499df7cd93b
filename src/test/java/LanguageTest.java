import java.io.IOException;
import java.nio.file.Files;
import java.nio.file.Path;
import java.util.regex.Matcher;
import java.util.regex.Pattern;

/** The rules of LANGUAGE.md that can be seen in the text of the class. */
public final class LanguageTest {
    private static final String[] BANNED = {"throw", "try", "catch", "finally", "synchronized", "assert", "import", "package",
        "protected", "->", "::", "@", "System.out", "Thread", "random", "nanoTime", "currentTimeMillis", "static {", "Exact("};
    private static final String[] FACE = {"row", "set", "copy", "element", "show", "holds", "says", "citizen", "beggar", "tell",
        "post", "citizenOf", "beggarOf", "city", "fault", "picks", "kept", "picked", "wear", "unkept", "parting", "rests", "shun",
        "rules", "hide", "lose", "best", "judge", "mornings", "winters", "seed", "act", "trace", "image", "restore", "status"};

    public static void main(String[] args) throws IOException {
        String code = Files.readString(Path.of("src/main/java/BeggarsChoose.java"))
                .replaceAll("//[^\n]*", "").replaceAll("(?s)/\\*.*?\\*/", "");
        for (String word : BANNED) {
            String pattern = Character.isLetter(word.charAt(0)) ? "\\b" + Pattern.quote(word) : Pattern.quote(word);
            Due.is("'" + word + "' stands in the class", Pattern.compile(pattern + "(?![A-Za-z])").matcher(code).results().count(), 0);
        }
        for (String name : FACE) {
            long publics = Pattern.compile("public (int|long) " + name + "\\(").matcher(code).results().count();
            Due.is("public " + name, publics, 1);
            long privates = Pattern.compile("private (static )?[A-Za-z\\[\\]]+ " + name + "\\(").matcher(code).results().count();
            Due.is("private " + name, privates, 0);
        }
        Due.is("public members", Pattern.compile("public ").matcher(code).results().count(), FACE.length + 3);
        members();
        lengths(code);
        Due.end();
    }

    private static void members() {
        for (java.lang.reflect.Field field : BeggarsChoose.class.getDeclaredFields()) {
            boolean isPrivate = java.lang.reflect.Modifier.isPrivate(field.getModifiers());
            Due.is("field " + field.getName() + " is private", isPrivate ? 1 : 0, field.getName().equals("NONE") ? 0 : 1);
            boolean isLoose = java.lang.reflect.Modifier.isStatic(field.getModifiers())
                    && !java.lang.reflect.Modifier.isFinal(field.getModifiers());
            Due.is("static field " + field.getName() + " is final", isLoose ? 1 : 0, 0);
        }
        Due.is("public methods", java.util.Arrays.stream(BeggarsChoose.class.getDeclaredMethods())
                .filter(m -> !java.lang.reflect.Modifier.isPrivate(m.getModifiers())).count(), FACE.length);
    }

    /** Methods stay under sixty lines and take at most seven parameters; classes at most twelve. */
    private static void lengths(String code) {
        Matcher method = Pattern.compile("(?m)^( {4}| {8})(?:public|private)[^;={]*\\(([^)]*)\\) \\{\n").matcher(code);
        while (method.find()) {
            int end = code.indexOf("\n" + method.group(1) + "}", method.end() - 1);
            long lines = code.substring(method.start(), end).lines().count();
            Due.is("short: " + method.group(), lines <= 60 ? 1 : 0, 1);
            Due.is("few parameters: " + method.group(), method.group(2).split(",").length <= 7 ? 1 : 0, 1);
        }
        long classes = Pattern.compile("\\bclass ").matcher(code).results().count();
        Due.is("classes " + classes, classes <= 12 ? 1 : 0, 1);
    }
}
