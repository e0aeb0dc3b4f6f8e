import java.util.ArrayList;
import java.util.List;
import java.util.Scanner;
import java.util.regex.Matcher;
import java.util.regex.Pattern;

/**
 * Reads README.md from the standard input and prints a test, ReadmeExamples, of what its Java
 * examples show: a comment behind a statement begins with the answer that is due there, a number,
 * NONE, or "throws" and an exception. Ends with exit code 1 if there is nothing to test or a comment
 * tells no answer.
 */
final class ReadmeProgram {
    private static final Pattern TOLD = Pattern.compile("(\\s*)(\\S.*;)\\s*//\\s*(.*)");
    private static final Pattern ANSWER = Pattern.compile("(?:(-?\\d+|NONE)|throws (\\w+))(?![\\w.]).*");
    private static final Pattern NAMED = Pattern.compile("(?:int|long) (\\w+) = .*;");

    private final List<String> body = new ArrayList<>();
    private int examples = 0;
    private int answers = 0;
    private boolean inExample = false;
    private boolean refused = false;

    public static void main(String[] args) {
        ReadmeProgram program = new ReadmeProgram();
        try (Scanner readme = new Scanner(System.in, "UTF-8")) {
            for (int line = 1; readme.hasNextLine(); line++) {
                program.take(line, readme.nextLine());
            }
        }
        if (program.inExample || program.refused || program.answers == 0) {
            System.err.println("README.md: no examples that tell what they answer");
            System.exit(1);
        }
        program.print();
    }

    private void take(int line, String text) {
        if (!inExample) {
            if (text.equals("```java")) {
                inExample = true;
                examples++;
                body.add("    private static void example" + examples + "() {");
            }
        } else if (text.equals("```")) {
            inExample = false;
            body.add("    }");
        } else {
            body.add("        " + checked(line, text));
        }
    }

    private String checked(int line, String text) {
        Matcher told = TOLD.matcher(text);
        if (!told.matches()) {
            return text;
        }
        Matcher answer = ANSWER.matcher(told.group(3));
        if (!answer.matches()) {
            System.err.println("README.md:" + line + ": the comment tells no answer");
            refused = true;
            return text;
        }
        answers++;
        String statement = told.group(2);
        String call = statement.substring(0, statement.length() - 1);
        String what = "\"README.md:" + line + ": " + call.replace("\\", "\\\\").replace("\"", "\\\"") + "\", ";
        if (answer.group(2) != null) {
            return told.group(1) + "throwsDue(" + what + '"' + answer.group(2) + "\", () -> " + call + ");";
        }
        String want = ", " + answer.group(1).replace("NONE", "LookbackPlan.NONE") + ");";
        Matcher named = NAMED.matcher(statement);
        if (named.matches()) {
            return told.group(1) + statement + " due(" + what + named.group(1) + want;
        }
        return told.group(1) + "due(" + what + call + want;
    }

    private void print() {
        System.out.println("public final class ReadmeExamples extends PlanTest {");
        for (String line : body) {
            System.out.println(line);
        }
        System.out.println("    public static void main(String[] args) {");
        for (int i = 1; i <= examples; i++) {
            System.out.println("        sentence(\"README.md, example " + i + "\", () -> example" + i + "());");
        }
        System.out.println("        finish();");
        System.out.println("    }");
        System.out.println("}");
    }
}
