import java.io.IOException;
import java.nio.file.Files;
import java.nio.file.Path;
import java.util.ArrayList;
import java.util.HashMap;
import java.util.List;
import java.util.Map;
import java.util.TreeSet;
import java.util.regex.MatchResult;
import java.util.regex.Matcher;
import java.util.regex.Pattern;
import java.util.stream.Stream;

/** What README.md says of the class and its tests, held against them. */
public final class ReadmeTest {
    private static final Path README = Path.of("README.md");
    private static final Path TESTS = Path.of("src", "test", "java");

    /** A call of the example: what keeps its answer (or nothing), its name, its arguments, what stands behind it. */
    private static final Pattern CALL = Pattern.compile("(?:int (\\w+) = )?map\\.(\\w+)\\((.*?)\\);\\s*// (.*)");
    private static final Pattern ANSWER = Pattern.compile("(-?\\d+|true|false|NONE|throws \\w+)(: .*)?");
    private static final Pattern ENTRY = Pattern.compile("- `([^`]*\\(.*?\\))`: (.*)");
    private static final Pattern EXCEPTION = Pattern.compile("\\w+Exception");

    public static void main(String[] args) throws IOException {
        List<String> example = Face.javaBlock(README);
        Check.due("README.md: its example compiles", 0, () -> compile(example));
        exampleAnswersAsWritten(example);
        eachMethodIsTold();
        eachTestHasItsLine();
        Check.end("ReadmeTest");
    }

    private static int compile(List<String> example) {
        try {
            Path directory = Files.createTempDirectory("readme");
            Path file = directory.resolve("Example.java");
            Files.writeString(file, "class Example { static void run() {\n" + String.join("\n", example) + "\n} }\n");
            int exit = new ProcessBuilder("javac", "-d", directory.toString(),
                    "-cp", System.getProperty("java.class.path"), file.toString()).inheritIO().start().waitFor();
            Files.deleteIfExists(directory.resolve("Example.class"));
            Files.delete(file);
            Files.delete(directory);
            return exit;
        } catch (IOException | InterruptedException e) {
            throw new IllegalStateException(e);
        }
    }

    private static void exampleAnswersAsWritten(List<String> example) throws IOException {
        Run run = new Run();
        Map<String, String> kept = new HashMap<>();
        TreeSet<String> called = new TreeSet<>();
        for (String line : example) {
            Matcher call = CALL.matcher(line);
            if (call.matches()) {
                called.add(call.group(2));
                answersAsWritten(run, kept, call);
            } else {
                boolean isNoCall = line.isBlank() || line.startsWith("//") || line.contains("new BorderDays()");
                Check.due("README.md: is no call without its answer: " + line, true, () -> isNoCall);
            }
        }
        TreeSet<String> methods = new TreeSet<>();
        for (Face.Entry entry : Face.entries()) {
            if (!entry.isConstructor()) {
                methods.add(entry.name());
            }
        }
        Check.due("README.md: the methods in its example", methods, () -> called);
    }

    private static void answersAsWritten(Run run, Map<String, String> kept, Matcher call) {
        StringBuilder text = new StringBuilder(call.group(2));
        for (String argument : call.group(3).split(", ")) {
            String plain = argument.replace("BorderDays.", "");
            text.append(' ').append(kept.getOrDefault(plain, plain));
        }
        String got = Check.told(() -> run.answer(text.toString()));
        Check.due("README.md: " + call.group(), due(call.group(4)), () -> got);
        if (call.group(1) != null) {
            kept.put(call.group(1), got);
        }
    }

    private static String due(String remark) {
        if (remark.equals("answers nothing")) {
            return "done";
        }
        Matcher answer = ANSWER.matcher(remark);
        if (!answer.matches()) {
            return "an answer that the remark tells";
        }
        return answer.group(1).replace("throws ", "throws.").replace("NONE", "" + BorderDays.NONE);
    }

    /** Each constructor and method in the document's order, with the exceptions that it names in theirs. */
    private static void eachMethodIsTold() throws IOException {
        List<Face.Entry> told = new ArrayList<>();
        for (String paragraph : listItems()) {
            Matcher entry = ENTRY.matcher(paragraph);
            if (entry.matches()) {
                Stream<MatchResult> exceptions = EXCEPTION.matcher(entry.group(2)).results();
                told.add(new Face.Entry(entry.group(1), exceptions.map(MatchResult::group).toList()));
            }
        }
        List<Face.Entry> face = Face.entries();
        Check.due("README.md: each method with its exceptions", face, () -> told);
    }

    /** The items of README.md's lists, each in one line. */
    private static List<String> listItems() throws IOException {
        List<String> items = new ArrayList<>();
        for (String line : Files.readAllLines(README)) {
            if (line.startsWith("- ")) {
                items.add(line);
            } else if (line.startsWith("  ") && !items.isEmpty()) {
                items.set(items.size() - 1, items.get(items.size() - 1) + " " + line.strip());
            }
        }
        return items;
    }

    private static void eachTestHasItsLine() throws IOException {
        TreeSet<String> there = new TreeSet<>();
        try (Stream<Path> files = Files.list(TESTS)) {
            files.map(file -> file.getFileName().toString().replace(".java", ""))
                    .filter(name -> name.endsWith("Test")).forEach(there::add);
        }
        TreeSet<String> told = new TreeSet<>();
        for (String item : listItems()) {
            Pattern.compile("`(\\w+Test)`").matcher(item).results().forEach(found -> told.add(found.group(1)));
        }
        Check.due("README.md: the tests that it tells", there, () -> told);
    }
}
