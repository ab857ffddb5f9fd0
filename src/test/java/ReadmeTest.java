import java.io.IOException;
import java.net.URL;
import java.net.URLClassLoader;
import java.nio.file.Files;
import java.nio.file.Path;
import java.util.ArrayList;
import java.util.List;
import java.util.regex.Matcher;
import java.util.regex.Pattern;

/** README.md says how to use the class: its lines answer what they tell, and each call stands in its table. */
public final class ReadmeTest {
    private static final Pattern TOLD = Pattern.compile("^(library\\.\\w+\\(.*\\)); +// (-?\\d+): .*$");

    private ReadmeTest() {
    }

    public static void main(String[] args) throws Exception {
        String readme = Files.readString(Path.of("README.md"));
        String program = Files.readString(Path.of(args.length > 0 ? args[0] : "src/main/java/MudLibrary.java"));
        eachCallStands(readme, program);
        eachNumberStands(readme);
        Check.isTrue("README says how the tests are run", readme.contains("bash .ci/run"));
        eachTestStands(readme);
        runLines(linesOf(readme));
        Check.end("ReadmeTest");
    }

    private static void eachCallStands(String readme, String program) {
        Matcher call = Pattern.compile("(?m)^    public \\w+ (\\w+)\\(([^)]*)\\) \\{$").matcher(program);
        int calls = 0;
        while (call.find()) {
            calls++;
            String shown = "| `" + call.group(1) + "(" + call.group(2).replaceAll("\\b(int|long) ", "") + ")` |";
            Check.isTrue("README has " + shown, readme.contains(shown));
        }
        Check.due("calls", calls, 34);
    }

    private static void eachNumberStands(String readme) {
        String[] names = {"NONE", "BAD", "STATE", "FULL", "NO"};
        long[] numbers = {MudLibrary.NONE, MudLibrary.BAD, MudLibrary.STATE, MudLibrary.FULL, MudLibrary.NO};
        for (int k = 0; k < names.length; k++) {
            String shown = "| " + numbers[k] + " | `" + names[k] + "` |";
            Check.isTrue("README has " + shown, readme.contains(shown));
        }
    }

    private static void eachTestStands(String readme) throws IOException {
        try (var files = Files.list(Path.of("src/test/java"))) {
            files.map(file -> file.getFileName().toString()).filter(name -> name.endsWith("Test.java"))
                .map(name -> name.substring(0, name.length() - ".java".length()))
                .forEach(name -> Check.isTrue("README tells of " + name, readme.contains("`" + name + "`")));
        }
    }

    /** What stands in README's java blocks, each told answer held by a line. */
    private static String linesOf(String readme) {
        StringBuilder lines = new StringBuilder();
        int told = 0;
        Matcher block = Pattern.compile("(?s)```java\n(.*?)```").matcher(readme);
        while (block.find()) {
            for (String line : block.group(1).split("\n")) {
                Matcher m = TOLD.matcher(line);
                boolean is = m.matches();
                told += is ? 1 : 0;
                lines.append(is ? "got.add((long) " + m.group(1) + "); want.add(" + m.group(2) + "L);" : line).append('\n');
            }
        }
        Check.isTrue("README tells answers: " + told, told >= 10);
        return "public final class ReadmeLines {\n"
            + "public static void run(java.util.List<Long> got, java.util.List<Long> want) {\n" + lines + "}\n}\n";
    }

    private static void runLines(String lines) throws Exception {
        Path folder = Files.createTempDirectory("readme");
        Path file = folder.resolve("ReadmeLines.java");
        Files.writeString(file, lines);
        int compiled = new ProcessBuilder("javac", "-d", folder.toString(), "-cp", System.getProperty("java.class.path"),
            file.toString()).inheritIO().start().waitFor();
        Check.due("README's lines compile", compiled, 0);
        List<Long> got = new ArrayList<>(), want = new ArrayList<>();
        if (compiled == 0) {
            try (URLClassLoader loader = new URLClassLoader(new URL[] {folder.toUri().toURL()})) {
                loader.loadClass("ReadmeLines").getMethod("run", List.class, List.class).invoke(null, got, want);
            }
        }
        for (int k = 0; k < got.size(); k++) {
            Check.due("README's call " + (k + 1), got.get(k), want.get(k));
        }
        for (String name : new String[] {"ReadmeLines.java", "ReadmeLines.class"}) {
            Files.deleteIfExists(folder.resolve(name));
        }
        Files.delete(folder);
    }
}
