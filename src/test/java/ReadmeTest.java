import java.io.IOException;
import java.lang.reflect.Method;
import java.lang.reflect.Modifier;
import java.nio.file.Files;
import java.nio.file.Path;
import java.util.ArrayList;
import java.util.Comparator;
import java.util.List;
import java.util.regex.Matcher;
import java.util.regex.Pattern;
import java.util.stream.Stream;

/** What README.md says: its examples are compiled and run, its lists looked up, its ways to run a test gone. */
final class ReadmeTest {
    private static final Path README = Path.of("README.md");
    private static final Path DOCUMENT = Path.of("../shared/DOC.md");
    private static final Path CI = Path.of(".ci/run");
    private static final Path TESTS = Path.of("src/test/java");
    private static final Path SHARED = Path.of("../shared/tests");
    private static final String MAIN = "src/main/java/SixFellows.java";

    private static final Pattern SHOWN = Pattern.compile("(?:(?:int|long) (\\w+) = )?(x\\.(\\w+)\\(.*\\)); +// (-?\\d+)(?:: .+)?");
    private static final String BEGINNING = "SixFellows x = new SixFellows();";

    private static String readme;
    private static Path room;

    public static void main(String[] args) throws IOException, InterruptedException {
        readme = Files.readString(README);
        room = Files.createTempDirectory("readme");
        try {
            examples();
            allCallsAreShown();
            listsAreTheDocuments();
            testsAreNamed();
            wayToRunAll();
            waysToRunOne();
        } finally {
            clear(room);
        }
        Check.end();
    }

    private static List<String> blocks(String language) {
        List<String> blocks = new ArrayList<>();
        Matcher m = Pattern.compile("(?ms)^```" + language + "\n(.*?)^```$").matcher(readme);
        while (m.find()) {
            blocks.add(m.group(1));
        }
        return blocks;
    }

    /** The examples as a program that asks for each answer that they show. */
    private static void examples() throws IOException, InterruptedException {
        Check.about("the examples");
        List<String> blocks = blocks("java");
        Check.holds("there are some", !blocks.isEmpty());
        StringBuilder program = new StringBuilder("final class ReadmeCalls {\n");
        StringBuilder main = new StringBuilder("public static void main(String[] args) {\n");
        for (int i = 0; i < blocks.size(); i++) {
            Check.holds("example " + i + " begins with a new object", blocks.get(i).startsWith(BEGINNING + "\n"));
            program.append("static void example").append(i).append("() {\n").append(asking(blocks.get(i))).append("}\n");
            main.append("Check.about(\"README.md, example ").append(i).append("\");\nexample").append(i).append("();\n");
        }
        program.append(main).append("Check.end();\n}\n}\n");
        Path file = room.resolve("ReadmeCalls.java");
        Files.writeString(file, program);
        String classes = System.getProperty("java.class.path");
        Check.due("they compile", run("javac", "-cp", classes, "-d", room.toString(), file.toString()), 0);
        Check.due("they answer what they show", run("java", "-cp", room + ":" + classes, "ReadmeCalls"), 0);
    }

    private static String asking(String block) {
        StringBuilder asking = new StringBuilder();
        for (String line : block.split("\n")) {
            Matcher shown = SHOWN.matcher(line);
            if (!shown.matches()) {
                Check.holds("an answer is shown by '" + line + "'", !line.startsWith("x.") && !line.contains("= x."));
                asking.append(line).append("\n");
                continue;
            }
            boolean isNamed = shown.group(1) != null;
            asking.append(isNamed ? line : "").append("\n");
            asking.append("Check.due(\"").append(shown.group(2)).append("\", ");
            asking.append(isNamed ? shown.group(1) : shown.group(2)).append(", ").append(shown.group(4)).append("L);\n");
        }
        return asking.toString();
    }

    private static void allCallsAreShown() {
        Check.about("the examples");
        String all = String.join("", blocks("java"));
        for (Method method : SixFellows.class.getDeclaredMethods()) {
            if (Modifier.isPublic(method.getModifiers())) {
                Check.holds(method.getName() + " is shown", all.contains("x." + method.getName() + "("));
            }
        }
    }

    /** What the page tells by numbers is what the document tells. */
    private static void listsAreTheDocuments() throws IOException {
        Check.about("the lists");
        String page = plain(readme);
        String document = plain(Files.readString(DOCUMENT));
        String findings = "-1000000001 BEYOND, -1000000002 FULL, -1000000003 KIND, -1000000004 NONE, -1000000005 STATE,"
            + " -1000000006 MISSING, -1000000007 SIZE";
        String sorts = "0 RUN, 1 SHOOT, 2 BLOW, 3 FREEZE, 4 CARRY";
        for (String list : List.of(findings, sorts)) {
            Check.holds("the document says " + list, document.contains(list));
            Check.holds("README.md says " + list, page.contains(list));
        }
        String kinds = "0 FELLOW, 1 RUNNER under FELLOW, 2 HUNTER under FELLOW, 3 BLOWER under FELLOW, 4 LEGGED under RUNNER,"
            + " 5 HATTED under BLOWER";
        Check.holds("the document says " + kinds, document.contains(kinds));
        String shorter = kinds.replace(" under FELLOW", "").replaceAll(" under (RUNNER|BLOWER)", " (a $1)");
        Check.holds("README.md says " + shorter, page.contains(shorter));
        Check.holds("both say 512", page.contains("good for 512 calls") && document.contains("used for at most 512 calls"));
    }

    private static String plain(String text) {
        return text.replaceAll("\\s+", " ");
    }

    private static void testsAreNamed() throws IOException {
        Check.about("the tests");
        for (String name : namesIn(TESTS)) {
            Check.holds(name + " is named", readme.contains("`" + name + "`"));
        }
        Matcher named = Pattern.compile("`([A-Z]\\w+)`").matcher(readme);
        while (named.find()) {
            Check.holds(named.group(1) + " is there", Files.exists(TESTS.resolve(named.group(1) + ".java")));
        }
    }

    /** Not run here, as it runs this test. */
    private static void wayToRunAll() throws IOException {
        Check.about("the way to run all tests");
        Check.holds("it comes first: bash .ci/run", blocks("sh").get(0).equals("bash " + CI + "\n"));
        Check.holds(CI + " is there", Files.isRegularFile(CI));
        String script = Files.readString(CI);
        Check.holds("it runs every test of the project", script.contains("for file in " + TESTS + "/*Test.java; do"));
        Check.holds("it runs every test under " + SHARED, script.contains("shared=" + SHARED + "\n")
            && script.contains("for file in \"$shared\"/*.java; do"));
    }

    private static void waysToRunOne() throws IOException, InterruptedException {
        Check.about("the ways to run a test");
        List<String> ways = blocks("sh");
        Check.due("one for all, one for the project's own, one for those under ../shared/tests", ways.size(), 3);
        String script = alike(Files.readString(CI));
        for (String way : ways.subList(1, 3)) {
            for (String line : way.split("\n")) {
                Check.holds(CI + " has '" + line + "'", script.contains(alike(line)));
            }
        }
        goes(ways.get(1));
        Matcher shared = Pattern.compile("\\.\\./shared/tests/(\\w+)\\.java").matcher(ways.get(2));
        Check.holds("the last names a test under " + SHARED, shared.find());
        for (String test : namesIn(SHARED)) {
            goes(ways.get(2).replace(shared.group(1), test));
        }
    }

    private static void goes(String way) throws IOException, InterruptedException {
        Check.due("the exit code of " + way, run("bash", "-euc", way), 0);
    }

    private static List<String> namesIn(Path folder) throws IOException {
        try (Stream<Path> files = Files.list(folder)) {
            return files.map(file -> file.getFileName().toString()).filter(name -> name.endsWith(".java"))
                .map(name -> name.replace(".java", "")).sorted().toList();
        }
    }

    /** One test's name is as good as another's, and so is one folder for classes. */
    private static String alike(String commands) {
        return commands.replace("\"$main\"", MAIN)
            .replaceAll("\\.\\./shared/tests/\\w+\\.java|\"\\$file\"", "FILE")
            .replaceAll("(java -Xss512k -cp) \\S+ (\\w+|\"\\$1\")", "$1 OUT NAME")
            .replaceAll("-d \"\\$out[^\"]*\"", "-d OUT");
    }

    /** The exit code; what was printed is told if it isn't 0. */
    private static int run(String... command) throws IOException, InterruptedException {
        Path printed = Files.createTempFile(room, "printed", ".txt");
        ProcessBuilder builder = new ProcessBuilder(command).redirectErrorStream(true).redirectOutput(printed.toFile());
        builder.environment().put("TMPDIR", room.toString());
        int code = builder.start().waitFor();
        if (code != 0) {
            System.out.print(Files.readString(printed));
        }
        return code;
    }

    private static void clear(Path folder) throws IOException {
        try (Stream<Path> all = Files.walk(folder)) {
            for (Path path : all.sorted(Comparator.reverseOrder()).toList()) {
                Files.delete(path);
            }
        }
    }
}
