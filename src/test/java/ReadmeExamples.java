import java.io.IOException;
import java.nio.file.Files;
import java.nio.file.Path;
import java.util.ArrayList;
import java.util.List;
import java.util.regex.Matcher;
import java.util.regex.Pattern;

/**
 * The examples of README.md: the lines of its java blocks. A line with a comment is a call, and the
 * comment begins with the answer that is due, up to a colon: <code>x.states(0);   // 13: words</code>.
 * The main method writes all of them as ReadmeRuns.java, so that javac reads them as they stand there.
 */
final class ReadmeExamples {
    private static final Pattern ANSWERED = Pattern.compile("\\s*((\\w+)\\.(\\w+)\\(.*\\));\\s*// ([^:]+)(:.*)?");
    private static final String THROWS = "throws ";

    /** A line of a block; the call, its method and its answer are null where no answer is given. */
    static final class Line {
        final int at;
        final String text;
        final String call;
        final String method;
        final String answer;

        Line(int at, String text) {
            this.at = at;
            this.text = text;
            Matcher matcher = ANSWERED.matcher(text);
            boolean answered = matcher.matches();
            if (!answered && text.contains("//")) {
                throw new IllegalStateException("README.md, line " + at + ": no answer to be read in " + text);
            }
            call = answered ? matcher.group(1) : null;
            method = answered ? matcher.group(3) : null;
            answer = answered ? matcher.group(4).trim() : null;
        }

        /** The name of the exception, or null where the call answers. */
        String thrown() {
            return answer != null && answer.startsWith(THROWS) ? answer.substring(THROWS.length()) : null;
        }

        String asTest() {
            if (answer == null) {
                return text;
            }
            String told = "\"README.md, line " + at + ": " + call + "\", ";
            boolean isBoolean = method.equals("allows");
            if (thrown() == null && isBoolean != answer.matches("true|false")) {
                throw new IllegalStateException("README.md, line " + at + ": no answer of " + method + ": " + answer);
            }
            String asked = ", () -> " + call + (isBoolean ? " ? 1 : 0);" : ");");
            if (thrown() != null) {
                return "due.thrown(" + told + thrown() + ".class" + asked;
            }
            return "due.answer(" + told + number() + asked;
        }

        private String number() {
            switch (answer) {
                case "true":
                    return "1";
                case "false":
                    return "0";
                case "NONE":
                    return "OrderMachines.NONE";
                default:
                    return Long.parseLong(answer) + "L";
            }
        }
    }

    private ReadmeExamples() {
    }

    static List<List<Line>> blocks(List<String> page) {
        List<List<Line>> blocks = new ArrayList<>();
        boolean inside = false;
        for (int i = 0; i < page.size(); i++) {
            String text = page.get(i);
            if (text.startsWith("```")) {
                inside = text.equals("```java");
                if (inside) {
                    blocks.add(new ArrayList<>());
                }
            } else if (inside) {
                blocks.get(blocks.size() - 1).add(new Line(i + 1, text));
            }
        }
        return blocks;
    }

    private static String asTest(List<List<Line>> blocks) {
        StringBuilder methods = new StringBuilder();
        StringBuilder calls = new StringBuilder();
        for (int n = 0; n < blocks.size(); n++) {
            calls.append("        block").append(n).append("();\n");
            methods.append("\n    private static void block").append(n).append("() {\n");
            for (Line line : blocks.get(n)) {
                methods.append("        ").append(line.asTest()).append('\n');
            }
            methods.append("    }\n");
        }
        return "public final class ReadmeRuns {\n    private static final Due due = new Due(\"ReadmeRuns\");\n\n"
                + "    public static void main(String[] args) {\n" + calls + "        due.end();\n    }\n" + methods + "}\n";
    }

    /** Arguments: the page, and the file to write. */
    public static void main(String[] args) throws IOException {
        Files.writeString(Path.of(args[1]), asTest(blocks(Files.readAllLines(Path.of(args[0])))));
    }
}
