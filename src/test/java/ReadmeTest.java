import java.io.ByteArrayOutputStream;
import java.io.File;
import java.io.PrintStream;
import java.lang.reflect.Field;
import java.lang.reflect.InvocationTargetException;
import java.lang.reflect.Method;
import java.lang.reflect.Modifier;
import java.nio.charset.StandardCharsets;
import java.nio.file.Path;
import java.util.Set;
import java.util.TreeSet;
import java.util.regex.MatchResult;
import java.util.regex.Matcher;
import java.util.regex.Pattern;

/** What README.md says of the class and of its tests. */
public final class ReadmeTest {
    private static final String README = Document.read(Path.of("README.md"));
    private static final Pattern CALL =
        Pattern.compile("loader\\.(\\w+)\\(([^)]*)\\);\\s*// (-?\\d+|true|false)\\b.*");
    private static final Pattern FACE = Pattern.compile("public (?:int|boolean) (\\w+)\\(([^)]*)\\);");

    public static void main(String[] args) throws ReflectiveOperationException {
        Due due = new Due();
        exampleAnswers(due);
        everyCallHasItsRow(due);
        everyConstantHasItsRow(due);
        refusalsAreInTheOrderTold(due);
        valueMayBeLikeAConstant(due);
        testsAreThoseThatAreThere(due);
        lineOfATestIsPrinted(due);
        due.end();
    }

    /** Each line of the example is a call with its answer, and there is one of each call of the face. */
    private static void exampleAnswers(Due due) throws ReflectiveOperationException {
        SuiteLoader loader = new SuiteLoader();
        Set<String> called = new TreeSet<>();
        String[] lines = block("java").split("\n");
        due.is("the example begins with " + lines[0], lines[0].equals("SuiteLoader loader = new SuiteLoader();"), true);
        for (int i = 1; i < lines.length; i++) {
            Matcher call = CALL.matcher(lines[i]);
            boolean isCall = call.matches();
            due.is("a call with its answer: " + lines[i], isCall, true);
            if (isCall) {
                called.add(call.group(1));
                String got = String.valueOf(answer(loader, call.group(1), call.group(2)));
                due.is(lines[i] + " (answered " + got + ")", got.equals(call.group(3)), true);
            }
        }
        for (MatchResult call : callsOfTheFace()) {
            due.is("the example has " + call.group(1), called.contains(call.group(1)), true);
        }
    }

    private static Object answer(SuiteLoader loader, String name, String arguments) throws ReflectiveOperationException {
        String[] texts = arguments.split(", ");
        for (Method method : SuiteLoader.class.getMethods()) {
            if (method.getName().equals(name) && method.getParameterCount() == texts.length) {
                return answer(loader, method, texts);
            }
        }
        return "nothing: there is no such call";
    }

    private static Object answer(SuiteLoader loader, Method method, String[] texts) throws ReflectiveOperationException {
        Object[] arguments = new Object[texts.length];
        for (int i = 0; i < texts.length; i++) {
            boolean isBoolean = method.getParameterTypes()[i] == boolean.class;
            arguments[i] = isBoolean ? (Object) Boolean.valueOf(texts[i]) : (Object) Integer.valueOf(texts[i]);
        }
        try {
            return method.invoke(loader, arguments);
        } catch (InvocationTargetException e) {
            return e.getCause();
        }
    }

    private static void everyCallHasItsRow(Due due) {
        for (MatchResult call : callsOfTheFace()) {
            String parameters = call.group(2).replaceAll("\\b(int|boolean) ", "");
            hasRow(due, "| `" + call.group(1) + "(" + parameters + ")` | ");
        }
    }

    private static MatchResult[] callsOfTheFace() {
        return FACE.matcher(Document.read(Path.of("../shared/DOC.md"))).results().toArray(MatchResult[]::new);
    }

    private static void everyConstantHasItsRow(Due due) throws IllegalAccessException {
        for (Field field : SuiteLoader.class.getFields()) {
            if (Modifier.isStatic(field.getModifiers())) {
                hasRow(due, "| `" + field.getName() + "` | " + field.get(null) + " | ");
            }
        }
    }

    private static void hasRow(Due due, String row) {
        due.is("README.md has a row " + row, README.contains("\n" + row), true);
    }

    /** "Where a number is out of range and no world is at work, .." */
    private static void refusalsAreInTheOrderTold(Due due) {
        Run x = new Run(due);
        x.act(30, 0).is(SuiteLoader.REFUSED);
        x.find(17, true).is(SuiteLoader.REFUSED);
        x.keep(6, 0).is(SuiteLoader.REFUSED);
        x.note(-1).is(SuiteLoader.NO_WORLD);
        x.count(3).is(SuiteLoader.REFUSED);
    }

    /** "`act(2, -101)` tells -101, and nothing has failed." */
    private static void valueMayBeLikeAConstant(Due due) {
        Run x = Run.inWorld(due);
        x.act(2, -101).is(SuiteLoader.FAILED);
        x.find(1, true).is(SuiteLoader.DONE);
    }

    private static void testsAreThoseThatAreThere(Due due) {
        Set<String> told = new TreeSet<>();
        Matcher names = Pattern.compile("\\b\\w+Test\\b").matcher(README);
        while (names.find()) {
            told.add(names.group());
        }
        Set<String> there = new TreeSet<>();
        for (String file : new File("src/test/java").list()) {
            if (file.endsWith("Test.java")) {
                there.add(file.substring(0, file.length() - ".java".length()));
            }
        }
        due.is("README.md names " + told + "; there are " + there, told.equals(there), true);
        due.is("src/test/java/real is there", new File("src/test/java/real").isDirectory(), true);
        due.is(".ci/run can be run", new File(".ci/run").canExecute(), true);
    }

    private static void lineOfATestIsPrinted(Due due) {
        String line = README.lines().filter(l -> l.startsWith("  holds   ")).findFirst().orElse("no line");
        due.is("a test prints: " + line, printedByBegin().contains(line + System.lineSeparator()), true);
    }

    private static String printedByBegin() {
        PrintStream before = System.out;
        ByteArrayOutputStream printed = new ByteArrayOutputStream();
        System.setOut(new PrintStream(printed, true, StandardCharsets.UTF_8));
        try {
            Promise02BeginTest.main(new String[0]);
        } finally {
            System.setOut(before);
        }
        return printed.toString(StandardCharsets.UTF_8);
    }

    private static String block(String language) {
        Matcher found = Pattern.compile("```" + language + "\n(.*?)\n```", Pattern.DOTALL).matcher(README);
        return found.find() ? found.group(1) : "no block of " + language;
    }
}
