import java.io.StringWriter;
import java.lang.reflect.Method;
import java.lang.reflect.Modifier;
import java.net.URL;
import java.net.URLClassLoader;
import java.nio.file.Files;
import java.nio.file.Path;
import java.util.ArrayList;
import java.util.List;
import java.util.regex.Matcher;
import java.util.regex.Pattern;
import javax.tools.JavaCompiler;
import javax.tools.StandardJavaFileManager;
import javax.tools.ToolProvider;

/** README.md: its calls, made in their order by a program of them, answer what stands behind them. */
public final class ReadmeTest {
    private static final Pattern CALL = Pattern.compile("((?:roof\\.\\w+|write)\\(.*\\)); +// (-?\\d+)(?::? .*)?");
    private static final Pattern MAKING = Pattern.compile("(?:SunriseRoof )?roof = new SunriseRoof\\(\\);");
    private static final List<String> CALLS = new ArrayList<>();
    private static final List<Long> DUE = new ArrayList<>();

    /** The lines of each block of Java, without its fences. */
    private static List<List<String>> blocks(List<String> page) {
        List<List<String>> blocks = new ArrayList<>();
        boolean inside = false;
        for (String line : page) {
            if (line.startsWith("```")) {
                inside = line.equals("```java");
                if (inside) {
                    blocks.add(new ArrayList<>());
                }
            } else if (inside) {
                blocks.get(blocks.size() - 1).add(line);
            }
        }
        return blocks;
    }

    /** A statement that makes a line's call and keeps its answer; a line that shows no call with an answer is wrong. */
    private static String asked(String line) {
        Matcher call = CALL.matcher(line);
        if (call.matches()) {
            CALLS.add(call.group(1));
            DUE.add(Long.parseLong(call.group(2)));
            return "told.add((long) " + call.group(1) + ");";
        }
        boolean fine = line.isBlank() || MAKING.matcher(line).matches();
        Check.due("README shows a call and its answer: " + line, fine ? 1 : 0, 1);
        return fine ? line : "";
    }

    private static String program(List<List<String>> blocks) {
        StringBuilder helpers = new StringBuilder();
        StringBuilder calls = new StringBuilder();
        for (List<String> block : blocks) {
            boolean isHelper = !block.isEmpty() && block.get(0).startsWith("static ");
            for (String line : block) {
                (isHelper ? helpers : calls).append(isHelper ? line : asked(line)).append('\n');
            }
        }
        return "public final class ReadmeShown {\n" + helpers
            + "public static void show(java.util.List<Long> told) {\n" + calls + "}\n}\n";
    }

    /** Compiles the program and runs it: what its calls answered; nothing, if it does not compile. */
    private static List<Long> answers(String program) throws Exception {
        List<Long> told = new ArrayList<>();
        Path room = Files.createTempDirectory("readme");
        Path file = room.resolve("ReadmeShown.java");
        Files.writeString(file, program);
        JavaCompiler javac = ToolProvider.getSystemJavaCompiler();
        StringWriter words = new StringWriter();
        try (StandardJavaFileManager files = javac.getStandardFileManager(null, null, null)) {
            List<String> options = List.of("-d", room.toString(), "-cp", System.getProperty("java.class.path"));
            boolean compiled = javac.getTask(words, files, null, options, null, files.getJavaFileObjects(file)).call();
            Check.due("README's calls compile: " + words, compiled ? 1 : 0, 1);
            if (compiled) {
                try (URLClassLoader loader = new URLClassLoader(new URL[] {room.toUri().toURL()})) {
                    loader.loadClass("ReadmeShown").getMethod("show", List.class).invoke(null, told);
                }
            }
        } finally {
            for (String name : List.of("ReadmeShown.java", "ReadmeShown.class", "")) {
                Files.deleteIfExists(room.resolve(name));
            }
        }
        return told;
    }

    private static void compare(List<Long> told) {
        Check.due("how many of README's calls were made", told.size(), CALLS.size());
        for (int i = 0; i < told.size() && i < CALLS.size(); i++) {
            Check.due("README: " + CALLS.get(i), told.get(i), DUE.get(i));
        }
    }

    /** Every method of the face is shown at least once, and every refusal. */
    private static void whole(List<List<String>> blocks) {
        StringBuilder shown = new StringBuilder();
        for (List<String> block : blocks) {
            for (String line : block) {
                shown.append(line).append('\n');
            }
        }
        for (Method method : SunriseRoof.class.getDeclaredMethods()) {
            if (Modifier.isPublic(method.getModifiers())) {
                Check.due("README shows " + method.getName(), shown.indexOf("roof." + method.getName() + "(") >= 0 ? 1 : 0, 1);
            }
        }
        for (int by : new int[] {-1, -2, -3, -5, -6}) {
            boolean found = Pattern.compile("// " + by + ": ").matcher(shown).find();
            Check.due("README shows a call that is refused by " + by, found ? 1 : 0, 1);
        }
    }

    public static void main(String[] args) throws Exception {
        List<String> page = Files.readAllLines(Path.of("README.md"));
        Check.due("README names the command that runs all tests", page.contains("    .ci/run") ? 1 : 0, 1);
        Check.due("that command can be run", Files.isExecutable(Path.of(".ci/run")) ? 1 : 0, 1);
        List<List<String>> blocks = blocks(page);
        whole(blocks);
        compare(answers(program(blocks)));
        Check.finish("ReadmeTest");
    }
}
