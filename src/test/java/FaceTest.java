import java.io.IOException;
import java.lang.reflect.Constructor;
import java.lang.reflect.Field;
import java.lang.reflect.Method;
import java.lang.reflect.Modifier;
import java.nio.file.Files;
import java.nio.file.Path;
import java.util.ArrayList;
import java.util.List;
import java.util.TreeSet;
import java.util.regex.Pattern;

/** The document's face and nothing beside it, and the rules of the language that can be looked up. */
public final class FaceTest {
    private static final String ILLEGAL = "java.lang.IllegalArgumentException";
    private static final String UNSUPPORTED = "java.lang.UnsupportedOperationException";
    private static final String OUT = "java.lang.IndexOutOfBoundsException";
    private static final String KIND = " throws " + ILLEGAL + "," + UNSUPPORTED;
    private static final String[] METHODS = {
        "public int OrderMachines.action(int,int,int,int)" + KIND,
        "public void OrderMachines.clear()",
        "public int OrderMachines.outcomes(int)" + KIND,
        "public long OrderMachines.outcome(int,int)" + KIND + "," + OUT,
        "public int OrderMachines.states(int)" + KIND,
        "public int OrderMachines.row(int,int,int)" + KIND + "," + OUT,
        "public int OrderMachines.cuts(int)" + KIND,
        "public int OrderMachines.cut(int,int)" + KIND + "," + OUT,
        "public boolean OrderMachines.allows(int,long)" + KIND,
        "public long OrderMachines.differs(int,int)" + KIND,
        "public int OrderMachines.soonest(int,int,int)" + KIND,
        "public int OrderMachines.stuck(int)" + KIND,
        "public int OrderMachines.count(int)",
    };
    /** What no line of the class may have: rules 2, 3, 4, 6 and 13. */
    private static final String[] FORBIDDEN = {
        "->", "::", "\\bfinally\\b", "\\bsynchronized\\b", "\\bassert\\b", "\\bMath\\.\\w+Exact\\b",
        "\\bSystem\\.(out|err|nanoTime|currentTimeMillis|getenv)", "\\bRandom\\b", "\\bThread\\b", "\\bhashCode\\b", "\\bequals\\b",
        "\\btoString\\b", "^package\\b", "\\bstatic\\s*\\{", "\\bvar\\b",
    };

    public static void main(String[] args) throws IOException {
        Due due = new Due("FaceTest");
        face(due);
        insides(due);
        text(due);
        due.end();
    }

    private static void face(Due due) {
        due.that("the class is public and final", OrderMachines.class.getModifiers() == (Modifier.PUBLIC | Modifier.FINAL));
        Constructor<?>[] made = OrderMachines.class.getDeclaredConstructors();
        due.that("one constructor", made.length == 1 && made[0].toString().equals("public OrderMachines()"));
        TreeSet<String> seen = new TreeSet<>();
        TreeSet<String> names = new TreeSet<>();
        for (Method method : OrderMachines.class.getDeclaredMethods()) {
            if (!Modifier.isPrivate(method.getModifiers())) {
                seen.add(method.toString());
                names.add(method.getName());
            }
        }
        due.that("the methods are the document's: " + seen, seen.equals(new TreeSet<>(List.of(METHODS))));
        for (Method method : OrderMachines.class.getDeclaredMethods()) {
            due.that("no private method is called as a public one: " + method,
                    !Modifier.isPrivate(method.getModifiers()) || !names.contains(method.getName()));
        }
        for (Field field : OrderMachines.class.getDeclaredFields()) {
            due.that("only NONE is seen from outside: " + field,
                    Modifier.isPrivate(field.getModifiers()) || field.toString().equals("public static final int OrderMachines.NONE"));
        }
    }

    private static void insides(Due due) {
        List<Class<?>> all = new ArrayList<>(List.of(OrderMachines.class.getDeclaredClasses()));
        due.that("at most twelve classes", all.size() <= 11);
        for (Class<?> inside : all) {
            due.that("static and not public: " + inside, Modifier.isStatic(inside.getModifiers()) && !Modifier.isPublic(inside.getModifiers()));
        }
        all.add(OrderMachines.class);
        for (Class<?> each : all) {
            int own = 0;
            for (Field field : each.getDeclaredFields()) {
                boolean isStatic = Modifier.isStatic(field.getModifiers());
                own += isStatic ? 0 : 1;
                due.that("static fields are final: " + field, !isStatic || Modifier.isFinal(field.getModifiers()));
            }
            due.that("at most twenty fields: " + each, own <= 20);
            for (Method method : each.getDeclaredMethods()) {
                due.that("at most seven parameters: " + method, method.getParameterCount() <= 7);
            }
        }
    }

    private static void text(Due due) throws IOException {
        for (String line : Files.readAllLines(Path.of("src/main/java/OrderMachines.java"))) {
            String code = line.replaceAll("\"[^\"]*\"", "\"\"").trim();
            if (code.startsWith("*") || code.startsWith("/*") || code.startsWith("//")) {
                continue;
            }
            for (String forbidden : FORBIDDEN) {
                due.that("no " + forbidden + " in: " + code, !Pattern.compile(forbidden).matcher(code).find());
            }
            if (code.startsWith("import")) {
                due.that("an import that the rules know: " + code, code.matches("import java\\.util\\.(Arrays|ArrayList|List);"));
            }
            if (code.contains("throw new")) {
                due.that("a throw by rule 6: " + code, code.matches(
                        "throw new (IllegalArgumentException|UnsupportedOperationException|IndexOutOfBoundsException)\\(\"\"\\);"));
            }
        }
    }
}
