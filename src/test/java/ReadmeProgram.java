import java.io.IOException;
import java.nio.file.Files;
import java.nio.file.Path;
import java.util.List;

/**
 * Makes a program of the Java blocks of README.md, so that the page can't tell what the class does not do.
 * A block that begins with "static" is a method; the others follow one another in main.
 */
public final class ReadmeProgram {
    private static final String THROWS = "throws ";

    private final StringBuilder methods = new StringBuilder();
    private final StringBuilder calls = new StringBuilder();

    private ReadmeProgram() {
    }

    /** The first argument is the page, the second the Java file to write. */
    public static void main(String[] arguments) throws IOException {
        Path target = Path.of(arguments[1]);
        ReadmeProgram program = new ReadmeProgram();
        program.read(Files.readAllLines(Path.of(arguments[0])));
        Files.writeString(target, program.text(target.getFileName().toString().replace(".java", "")));
    }

    private void read(List<String> lines) {
        int at = 0;
        while (at < lines.size()) {
            if (lines.get(at).equals("```java")) {
                int end = at + 1 + lines.subList(at + 1, lines.size()).indexOf("```");
                addBlock(lines.subList(at + 1, end));
                at = end;
            }
            at++;
        }
    }

    private void addBlock(List<String> block) {
        boolean isMethod = block.get(0).startsWith("static ");
        for (String line : block) {
            if (isMethod) {
                methods.append(line).append('\n');
            } else {
                calls.append(checked(line)).append('\n');
            }
        }
    }

    /** A line "call; // answer : why" or "call; // throws exception" as a check, any other line as it is. */
    private static String checked(String line) {
        int comment = line.indexOf("// ");
        int end = line.indexOf(';');
        if (comment < 0 || end < 0 || end > comment) {
            return line;
        }
        String call = line.substring(0, end);
        String due = line.substring(comment + 3).split(" : ")[0].strip();
        String what = "\"README: " + call.replace("\"", "'") + "\"";
        if (due.startsWith(THROWS)) {
            return "Check.refuses(" + what + ", " + due.substring(THROWS.length()) + ".class, () -> " + call + ");";
        }
        return "Check.same(" + what + ", " + call + ", " + due + ");";
    }

    private String text(String name) {
        return "import java.util.NoSuchElementException;\n\npublic final class " + name + " {\n" + methods
                + "public static void main(String[] arguments) {\n" + calls
                + "if (!Check.finish()) {\nSystem.exit(1);\n}\n}\n}\n";
    }
}
