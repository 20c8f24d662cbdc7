import java.io.IOException;
import java.nio.file.Files;
import java.nio.file.Path;
import java.util.regex.Matcher;
import java.util.regex.Pattern;

/** Prints a program of a README's examples which checks that each line answers as its comment says. */
public final class ReadmeProgram {
    private static final Pattern MAKES_A_DESK =
            Pattern.compile("BackhaulReturns \\w+ = new BackhaulReturns\\(\\);");
    private static final Pattern NAMES_AN_ANSWER =
            Pattern.compile("int (\\w+) = (.+);\\s+// (-?\\d+)(:.*)?");
    private static final Pattern ANSWERS =
            Pattern.compile("(\\w+\\..+);\\s+// (-?\\d+)(:.*)?");
    private static final Pattern THROWS =
            Pattern.compile("(\\w+\\..+);\\s+// throws (\\w+)(:.*)?");

    public static void main(String[] args) throws IOException {
        System.out.println("public final class ReadmeExamples {");
        System.out.println("    public static void main(String[] args) {");
        boolean isExample = false;
        for (String line : Files.readAllLines(Path.of(args[0]))) {
            if (line.startsWith("```")) {
                isExample = line.equals("```java");
            } else if (isExample && !line.isBlank()) {
                System.out.println("        " + checked(line));
            }
        }
        System.out.println("        Check.finish(\"ReadmeExamples\");");
        System.out.println("    }");
        System.out.println("}");
    }

    private static String checked(String line) {
        if (MAKES_A_DESK.matcher(line).matches()) {
            return line;
        }
        String what = '"' + line.replace("\\", "\\\\").replace("\"", "\\\"") + '"';
        Matcher named = NAMES_AN_ANSWER.matcher(line);
        if (named.matches()) {
            return "int " + named.group(1) + " = " + named.group(2) + "; Check.is(" + what + ", "
                    + named.group(1) + ", " + named.group(3) + ");";
        }
        Matcher answers = ANSWERS.matcher(line);
        if (answers.matches()) {
            return "Check.is(" + what + ", " + answers.group(1) + ", " + answers.group(2) + ");";
        }
        Matcher refused = THROWS.matcher(line);
        if (refused.matches()) {
            return "Check.holds(" + what + ", Check.thrownBy(() -> " + refused.group(1) + ") == "
                    + refused.group(2) + ".class);";
        }
        throw new IllegalArgumentException("an example does not say what it answers: " + line);
    }
}
