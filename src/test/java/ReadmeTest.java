import java.io.IOException;
import java.lang.reflect.Method;
import java.lang.reflect.Modifier;
import java.nio.file.DirectoryStream;
import java.nio.file.Files;
import java.nio.file.Path;
import java.util.ArrayList;
import java.util.List;
import java.util.Set;
import java.util.TreeSet;
import java.util.regex.Matcher;
import java.util.regex.Pattern;

/** What README.md shows of the class's use compiles and answers as it says; its commands are those of .ci/run. */
final class ReadmeTest {
    private static final Pattern SHOWN = Pattern.compile(" *(int \\w+ = )?(\\S.*); +// (.*)");
    private static final Pattern ANSWER = Pattern.compile("(throws )?(\"[^\"]*\"|'.'|[\\w.-]+)(: .+)?");
    private static final String HEAD = """
        public final class Shown {
            private static int wrong;

            static void due(String call, long got, long due) {
                due(call, "" + got, "" + due);
            }

            static void due(String call, boolean got, boolean due) {
                due(call, "" + got, "" + due);
            }

            static void due(String call, String got, String due) {
                if (!got.equals(due)) {
                    wrong++;
                    System.out.println("README.md: " + call + " answered " + got + ", shown is " + due);
                }
            }

            public static void main(String[] args) {
        """;
    private static final String FOOT = """
                System.exit(wrong == 0 ? 0 : 1);
            }
        """;

    private ReadmeTest() {
    }

    public static void main(String[] args) throws IOException, InterruptedException {
        List<String> readme = Files.readAllLines(Path.of("README.md"));
        List<List<String>> uses = blocks(readme, "java");
        everyCallIsShown(uses);
        runShown(program(uses));
        commands(blocks(readme, "sh"), trimmed(Files.readAllLines(Path.of(".ci/run"))));
        listOfTests(readme);
        Check.finish("ReadmeTest");
    }

    /** The blocks of a language, without the lines that fence them. */
    private static List<List<String>> blocks(List<String> readme, String language) {
        List<List<String>> all = new ArrayList<>();
        List<String> open = null;
        for (String line : readme) {
            if (line.startsWith("```")) {
                open = line.equals("```" + language) ? new ArrayList<>() : null;
                if (open != null) {
                    all.add(open);
                }
            } else if (open != null) {
                open.add(line);
            }
        }
        return all;
    }

    private static void everyCallIsShown(List<List<String>> uses) {
        for (Method method : SourceTree.class.getDeclaredMethods()) {
            if (Modifier.isPublic(method.getModifiers())) {
                boolean shown = uses.toString().contains("x." + method.getName() + "(");
                Check.same("README.md shows " + method.getName(), shown, true);
            }
        }
    }

    /** Blocks that begin with static are the program's methods; all others follow one another in its main method. */
    private static String program(List<List<String>> uses) {
        StringBuilder inMain = new StringBuilder();
        StringBuilder methods = new StringBuilder();
        for (List<String> use : uses) {
            boolean own = use.get(0).startsWith("static ");
            for (String line : use) {
                (own ? methods : inMain).append(own ? line : checked(line)).append('\n');
            }
        }
        return HEAD + inMain + FOOT + methods + "}\n";
    }

    /** A line with an answer behind it becomes a comparison with that answer. */
    private static String checked(String line) {
        Matcher shown = SHOWN.matcher(line);
        Matcher answer = shown.matches() ? ANSWER.matcher(shown.group(3)) : null;
        boolean read = answer != null && answer.matches();
        Check.same("README.md: an answer that can be read: " + line, read, line.matches(".*; *//.*"));
        if (!read) {
            return line;
        }
        String call = shown.group(2);
        String name = "\"" + call.replace("\"", "\\\"") + "\"";
        if (answer.group(1) != null) {
            return "try { " + call + "; due(" + name + ", \"nothing thrown\", \"throws\"); } catch ("
                + answer.group(2) + " e) { }";
        }
        if (shown.group(1) == null) {
            return "due(" + name + ", " + call + ", " + answer.group(2) + ");";
        }
        String variable = shown.group(1).split(" ")[1];
        return shown.group(1) + call + "; due(" + name + ", " + variable + ", " + answer.group(2) + ");";
    }

    private static void runShown(String program) throws IOException, InterruptedException {
        Path folder = Files.createTempDirectory("readme");
        Path source = Files.writeString(folder.resolve("Shown.java"), program);
        int compiled = run("javac", "-Xlint:all", "-encoding", "UTF-8", "-d", folder.toString(),
            "src/main/java/SourceTree.java", source.toString());
        Check.same("compiling what README.md shows", compiled, 0);
        Check.same("running what README.md shows", run("java", "-cp", folder.toString(), "Shown"), 0);
        try (DirectoryStream<Path> made = Files.newDirectoryStream(folder)) {
            for (Path file : made) {
                Files.delete(file);
            }
        }
        Files.delete(folder);
    }

    private static int run(String... command) throws IOException, InterruptedException {
        return new ProcessBuilder(command).inheritIO().start().waitFor();
    }

    private static List<String> trimmed(List<String> lines) {
        List<String> all = new ArrayList<>();
        for (String line : lines) {
            all.add(line.trim());
        }
        return all;
    }

    /** README.md's commands stand word for word in .ci/run, and no javac and java of .ci/run is left out. */
    private static void commands(List<List<String>> blocks, List<String> script) {
        List<String> named = new ArrayList<>();
        for (List<String> block : blocks) {
            named.addAll(trimmed(block));
        }
        Check.same("README.md names .ci/run", named.remove(".ci/run"), true);
        Check.same(".ci/run can be started", Files.isExecutable(Path.of(".ci/run")), true);
        for (String command : named) {
            Check.same(".ci/run runs what README.md names: " + command, script.contains(command), true);
        }
        for (String line : script) {
            if (line.startsWith("java")) {
                Check.same("README.md names what .ci/run runs: " + line, named.contains(line), true);
            }
        }
    }

    private static void listOfTests(List<String> readme) throws IOException {
        Set<String> listed = new TreeSet<>();
        for (String line : readme) {
            Matcher name = Pattern.compile("`(\\w+Test)`").matcher(line);
            while (line.startsWith("- ") && name.find()) {
                listed.add(name.group(1) + ".java");
            }
        }
        Set<String> there = new TreeSet<>();
        try (DirectoryStream<Path> tests = Files.newDirectoryStream(Path.of("src/test/java"), "*Test.java")) {
            for (Path test : tests) {
                there.add(test.getFileName().toString());
            }
        }
        Check.same("the tests that README.md lists", listed.toString(), there.toString());
    }
}
