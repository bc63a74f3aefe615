import java.io.IOException;
import java.nio.file.Files;
import java.nio.file.Path;
import java.util.ArrayList;
import java.util.List;
import java.util.regex.Matcher;
import java.util.regex.Pattern;

/**
 * Writes what README.md shows in its Java blocks out as one program: a block that begins with 'static' is a
 * method of it, the others follow one another in its main. A call with '// N' behind it becomes a test of N.
 */
final class Examples {
    static final String NAME = "ReadmeExamples";
    private static final Pattern ANSWERED = Pattern.compile("^(.*;)\\s*// (-?\\d+)(:.*)?$");
    private static final Pattern CALL = Pattern.compile("\\b([xy]\\.\\w+|tell)\\(");

    private Examples() {
    }

    /** Takes the page and the directory into which the program is to be written. */
    public static void main(String[] args) throws IOException {
        List<List<String>> blocks = blocksOf(Files.readAllLines(Path.of(args[0])));
        Files.writeString(Path.of(args[1], NAME + ".java"), programOf(blocks));
    }

    static List<List<String>> blocksOf(List<String> page) {
        List<List<String>> blocks = new ArrayList<>();
        boolean within = false;
        for (String line : page) {
            if (within && line.equals("```")) {
                within = false;
            } else if (within) {
                blocks.get(blocks.size() - 1).add(line);
            } else if (line.equals("```java")) {
                within = true;
                blocks.add(new ArrayList<>());
            }
        }
        if (within || blocks.isEmpty()) {
            throw new IllegalArgumentException("a block without an end, or no block at all");
        }
        return blocks;
    }

    private static String programOf(List<List<String>> blocks) {
        StringBuilder methods = new StringBuilder();
        StringBuilder main = new StringBuilder();
        for (List<String> block : blocks) {
            boolean isMethod = !block.isEmpty() && block.get(0).startsWith("static ");
            for (String line : block) {
                (isMethod ? methods : main).append(isMethod ? line : tested(line)).append('\n');
            }
        }
        return "public final class " + NAME + " {\n" + methods + "public static void main(String[] args) {\n" + main
                + "Due.end();\n}\n}\n";
    }

    private static String tested(String line) {
        Matcher answered = ANSWERED.matcher(line);
        if (answered.matches()) {
            String call = answered.group(1).substring(0, answered.group(1).length() - 1);
            return "Due.is(\"" + call.replace("\"", "'") + "\", " + call + ", " + answered.group(2) + ");";
        }
        if (CALL.matcher(line).find()) {
            throw new IllegalArgumentException("a call without its answer: " + line);
        }
        return line;
    }
}
