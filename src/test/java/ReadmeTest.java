import java.io.IOException;
import java.net.URL;
import java.net.URLClassLoader;
import java.nio.file.Files;
import java.nio.file.Path;
import java.util.ArrayList;
import java.util.List;
import java.util.regex.Matcher;
import java.util.regex.Pattern;

/**
 * README.md's examples compile, and answer what it says. They are one run of calls: a line 'name = call; // value ..'
 * of one of them says what the call answers.
 */
public final class ReadmeTest {
    private static final Path README = Path.of("README.md");
    private static final Pattern ANSWER =
        Pattern.compile("(?:int |boolean )?(\\w+) = (.*);\\s*// (-?\\d+|true|false)\\b.*");
    private static final int LEAST_ANSWERS = 15;

    public static void main(String[] args)
            throws IOException, InterruptedException, ReflectiveOperationException {
        Check check = new Check();
        Path folder = Files.createTempDirectory("readme");
        Path file = folder.resolve("ReadmeExample.java");
        Files.writeString(file, program(check));
        int code = new ProcessBuilder("javac", "--release", "17", "-d", folder.toString(),
            "-cp", System.getProperty("java.class.path"), file.toString()).inheritIO().start().waitFor();
        check.due("compiling README.md's examples", code, 0);
        if (code == 0) {
            run(check, folder);
        }
        remove(folder);
        check.end();
    }

    /** The examples' lines, each answer that README.md tells being followed by a look at it. */
    private static String program(Check check) throws IOException {
        StringBuilder text = new StringBuilder("public final class ReadmeExample {\n"
            + "    public static void run(java.util.List<String> wrong) {\n");
        boolean inExample = false;
        int answers = 0;
        for (String line : Files.readAllLines(README)) {
            if (line.startsWith("```")) {
                inExample = line.equals("```java");
            } else if (inExample) {
                text.append(line).append('\n');
                Matcher answer = ANSWER.matcher(line.strip());
                if (answer.matches()) {
                    answers++;
                    text.append(look(answer.group(1), answer.group(2), answer.group(3)));
                }
            }
        }
        if (answers < LEAST_ANSWERS) {
            check.tell("README.md's examples tell " + answers + " answers alone");
        }
        return text.append("    }\n}\n").toString();
    }

    private static String look(String name, String call, String due) {
        return "if (" + name + " != " + due + ") wrong.add(\"" + call + " answered \" + " + name + " + \", README.md says "
            + due + "\");\n";
    }

    private static void run(Check check, Path folder) throws IOException, ReflectiveOperationException {
        List<String> wrong = new ArrayList<>();
        try (URLClassLoader loader = new URLClassLoader(new URL[] {folder.toUri().toURL()})) {
            loader.loadClass("ReadmeExample").getMethod("run", List.class).invoke(null, wrong);
        }
        for (String what : wrong) {
            check.tell(what);
        }
    }

    private static void remove(Path folder) throws IOException {
        Files.deleteIfExists(folder.resolve("ReadmeExample.java"));
        Files.deleteIfExists(folder.resolve("ReadmeExample.class"));
        Files.delete(folder);
    }
}
