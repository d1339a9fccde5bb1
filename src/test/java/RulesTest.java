import java.lang.reflect.Constructor;
import java.lang.reflect.Field;
import java.lang.reflect.Member;
import java.lang.reflect.Method;
import java.lang.reflect.Modifier;
import java.nio.file.Files;
import java.nio.file.Path;
import java.util.Arrays;
import java.util.Set;
import java.util.TreeSet;
import java.util.regex.Matcher;
import java.util.regex.Pattern;

/** Rules of LANGUAGE.md that can be seen from the source and the class file. */
public final class RulesTest {
    private static final String FACE = "part of builder at asks terms feed end row chaff law orders fault stopped force stands send rest "
        + "throwDown tick undo longest rows plan hands taught unseen sight forget whose look nights drawn image back count status";

    private static void none(String code, String pattern) {
        Matcher m = Pattern.compile(pattern).matcher(code);
        boolean found = m.find();
        Check.due("uses of " + pattern + (found ? ": " + m.group() : ""), found ? 1 : 0, 0);
    }

    private static void source(String source) {
        String code = source.replaceAll("(?s)/\\*.*?\\*/", " ").replaceAll("//[^\n]*", " ").replaceAll("\"[^\"\n]*\"", "\"\"");
        none(code, "\\b(throw|try|catch|synchronized|assert|package|native|volatile|transient)\\b");
        none(code, "->|::");
        none(code, "\\w*Exact\\b");
        none(code, "\\b(Object|HashMap|Map|Set|Random|System\\.(?!arraycopy)\\w+|Thread|Long\\.M\\w+|Integer\\.M\\w+)\\b");
        none(code, "\\b(equals|hashCode|toString)\\b");
        none(code, "import (?!java\\.util\\.Arrays;)");
        none(code, "\\b(public|protected) (?!final class SunriseRoof|SunriseRoof\\(\\)|int |long unseen|static final int NONE)");
        none(code, "[^\\x00-\\x7f]");
        for (String word : "Math Integer Arrays System".split(" ")) {
            Matcher m = Pattern.compile("\\b" + word + "\\.(\\w+)").matcher(code);
            while (m.find()) {
                boolean fine = Set.of("max", "min", "bitCount", "fill", "arraycopy").contains(m.group(1));
                Check.due(m.group(), fine ? 1 : 0, 1);
            }
        }
    }

    private static Set<String> visible(Member[] members) {
        Set<String> names = new TreeSet<>();
        for (Member m : members) {
            if (!Modifier.isPrivate(m.getModifiers()) && !m.isSynthetic()) {
                Check.due(m + " is public", Modifier.isPublic(m.getModifiers()) ? 1 : 0, 1);
                names.add(m.getName());
            }
        }
        return names;
    }

    private static void face() {
        Set<String> due = new TreeSet<>(Arrays.asList(FACE.split(" ")));
        Method[] methods = SunriseRoof.class.getDeclaredMethods();
        Check.due("the face " + visible(methods), visible(methods).equals(due) ? 1 : 0, 1);
        Constructor<?>[] makers = SunriseRoof.class.getDeclaredConstructors();
        Check.due("one constructor", makers.length, 1);
        Check.due("without arguments", makers[0].getParameterCount(), 0);
        Check.due("NONE alone is seen", visible(SunriseRoof.class.getDeclaredFields()).equals(Set.of("NONE")) ? 1 : 0, 1);
        Check.due("final", Modifier.isFinal(SunriseRoof.class.getModifiers()) ? 1 : 0, 1);
        Class<?>[] inside = SunriseRoof.class.getDeclaredClasses();
        Check.due("classes", inside.length <= 11 ? 1 : 0, 1);
        for (Class<?> c : inside) {
            Check.due(c + " is static", Modifier.isStatic(c.getModifiers()) ? 1 : 0, 1);
            for (Method m : c.getDeclaredMethods()) {
                Check.due(m + " bears a public name", due.contains(m.getName()) ? 1 : 0, 0);
            }
            sizes(c);
        }
        sizes(SunriseRoof.class);
    }

    private static void sizes(Class<?> c) {
        int fields = 0;
        for (Field f : c.getDeclaredFields()) {
            boolean isStatic = Modifier.isStatic(f.getModifiers());
            Check.due(f + " is static and not final", isStatic && !Modifier.isFinal(f.getModifiers()) ? 1 : 0, 0);
            fields += isStatic ? 0 : 1;
        }
        Check.due(c + " has at most 20 fields: " + fields, fields <= 20 ? 1 : 0, 1);
        for (Method m : c.getDeclaredMethods()) {
            Check.due(m + " has at most 7 parameters", m.getParameterCount() <= 7 ? 1 : 0, 1);
        }
    }

    private static void shortMethods(String source) {
        String[] lines = source.split("\n");
        int from = -1;
        String indent = "";
        for (int i = 0; i < lines.length; i++) {
            Matcher head = Pattern.compile("^( {4}| {8})(?!if|for|while|switch|return|private static final class)[A-Za-z].*\\) \\{$").matcher(lines[i]);
            if (head.matches()) {
                from = i;
                indent = head.group(1);
            } else if (from >= 0 && lines[i].equals(indent + "}")) {
                Check.due("lines of " + lines[from].trim(), i - from + 1 <= 60 ? 1 : 0, 1);
                from = -1;
            }
        }
    }

    public static void main(String[] args) throws Exception {
        String source = Files.readString(Path.of("src/main/java/SunriseRoof.java"));
        source(source);
        shortMethods(source);
        face();
        Check.finish("RulesTest");
    }
}
