import java.io.IOException;
import java.lang.reflect.Method;
import java.lang.reflect.Modifier;
import java.nio.file.Files;
import java.nio.file.Path;
import java.util.ArrayList;
import java.util.List;
import java.util.TreeSet;

/** README.md tells all there is to call, and shows it by examples; ReadmeRuns has their answers. */
public final class ReadmeTest {
    private static final List<String> EXCEPTIONS =
            List.of("IllegalArgumentException", "UnsupportedOperationException", "IndexOutOfBoundsException");
    private static final Due due = new Due("ReadmeTest");

    public static void main(String[] args) throws IOException {
        List<String> page = Files.readAllLines(Path.of("README.md"));
        List<ReadmeExamples.Line> lines = new ArrayList<>();
        for (List<ReadmeExamples.Line> block : ReadmeExamples.blocks(page)) {
            lines.addAll(block);
        }
        for (Method method : OrderMachines.class.getDeclaredMethods()) {
            if (Modifier.isPublic(method.getModifiers())) {
                told(method, page);
                shown(method, lines);
            }
        }
        allAnswered(lines);
        words(page);
        due.end();
    }

    private static void told(Method method, List<String> page) {
        StringBuilder signature = new StringBuilder("\\| `" + method.getReturnType() + " " + method.getName() + "\\(");
        for (int i = 0; i < method.getParameterCount(); i++) {
            signature.append(i == 0 ? "" : ", ").append(method.getParameterTypes()[i]).append(" \\w+");
        }
        signature.append("\\)` \\| .+ \\|");
        due.that("a row tells what " + method + " answers", page.stream().anyMatch(row -> row.matches(signature.toString())));
        String begin = "| `" + method.getName() + "` | ";
        String row = page.stream().filter(each -> each.startsWith(begin)).findFirst().orElse("");
        String[] cells = row.substring(Math.min(begin.length(), row.length())).split(" ?\\| ?");
        due.that("a row tells what " + method + " throws", cells.length == EXCEPTIONS.size());
        for (int i = 0; i < Math.min(cells.length, EXCEPTIONS.size()); i++) {
            due.that(EXCEPTIONS.get(i) + " is told of " + method, cells[i].equals("never") != declared(method).contains(EXCEPTIONS.get(i)));
        }
    }

    private static TreeSet<String> declared(Method method) {
        TreeSet<String> names = new TreeSet<>();
        for (Class<?> each : method.getExceptionTypes()) {
            names.add(each.getSimpleName());
        }
        return names;
    }

    private static void shown(Method method, List<ReadmeExamples.Line> lines) {
        TreeSet<String> thrown = new TreeSet<>();
        boolean called = false;
        for (ReadmeExamples.Line line : lines) {
            if (method.getName().equals(line.method) && line.thrown() != null) {
                thrown.add(line.thrown());
            } else if (line.text.contains("." + method.getName() + "(")) {
                called |= line.answer != null || method.getReturnType() == void.class;
            }
        }
        due.that("an example calls " + method, called);
        due.that("examples show what " + method + " throws, and only that: " + thrown, thrown.equals(declared(method)));
    }

    /** Only a call in a loop, and one that answers nothing, may stand there without its answer. */
    private static void allAnswered(List<ReadmeExamples.Line> lines) {
        for (ReadmeExamples.Line line : lines) {
            boolean isCall = line.text.matches("\\w+\\.\\w+\\(.*");
            due.that("an answer stands behind line " + line.at + ": " + line.text,
                    !isCall || line.answer != null || line.text.endsWith(".clear();"));
        }
    }

    private static void words(List<String> page) {
        String all = String.join("\n", page);
        for (String word : List.of("| 0 | PLAIN |", "| 1 | ROWS |", "| 2 | PLACES |", "| 3 | PAIRS |", "| 0 | WRITE |", "| 1 | READ |",
                "| 2 | FENCE |", "| 3 | WRITE THROUGH |", "| t, 0 .. 3 |", "| 4 + t, 4 .. 7 |", "| 4 + b, 4 .. 5 |",
                "| 8 + 4 t + p, 8 .. 23 |", "| register r of thread t |", "| place p |", "12000", "512 calls", "`new OrderMachines()`",
                "`OrderMachines.NONE`, which is " + OrderMachines.NONE, ".ci/run")) {
            due.that("README.md tells " + word, all.contains(word));
        }
    }
}
