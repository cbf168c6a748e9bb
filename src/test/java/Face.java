import java.io.IOException;
import java.nio.file.Files;
import java.nio.file.Path;
import java.util.ArrayList;
import java.util.Arrays;
import java.util.List;

/** The public face as the document writes it; the tests are run in the project's own directory. */
final class Face {
    private static final Path DOCUMENT = Path.of("..", "shared", "DOC.md");

    /** A constructor or method: "int area(int place, int day)", and the exceptions' names without their packages. */
    record Entry(String head, List<String> exceptions) {
        String name() {
            return head.replaceAll("\\(.*", "").replaceAll(".* ", "");
        }

        boolean isConstructor() {
            return head.startsWith("BorderDays(");
        }

        /** "int area(int, int) throws A, B", without the parameters' names. */
        String signature() {
            String types = head.replaceAll("(\\w+) \\w+([,)])", "$1$2");
            return exceptions.isEmpty() ? types : types + " throws " + String.join(", ", exceptions);
        }
    }

    private Face() {
    }

    /** The lines of the first block of Java in a text. */
    static List<String> javaBlock(Path file) throws IOException {
        List<String> lines = Files.readAllLines(file);
        int start = lines.indexOf("```java") + 1;
        int length = lines.subList(start, lines.size()).indexOf("```");
        if (start == 0 || length < 0) {
            throw new AssertionError("no block of Java in " + file);
        }
        return lines.subList(start, start + length);
    }

    private static List<String> members() throws IOException {
        List<String> members = new ArrayList<>();
        for (String line : javaBlock(DOCUMENT)) {
            if (line.endsWith(";")) {
                members.add(line.strip().replaceAll(";$", "").replaceFirst("^public ", ""));
            }
        }
        return members;
    }

    static List<String> constants() throws IOException {
        return members().stream().filter(member -> member.contains("=")).toList();
    }

    static List<Entry> entries() throws IOException {
        return members().stream().filter(member -> !member.contains("=")).map(Face::entry).toList();
    }

    private static Entry entry(String member) {
        String[] sides = member.split(" throws ");
        List<String> exceptions = sides.length < 2 ? List.of()
                : Arrays.stream(sides[1].split(", ")).map(name -> name.replaceAll(".*\\.", "")).toList();
        return new Entry(sides[0], exceptions);
    }
}
