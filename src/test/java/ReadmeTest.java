import java.io.File;
import java.io.IOException;
import java.lang.reflect.InvocationTargetException;
import java.lang.reflect.Method;
import java.lang.reflect.Modifier;
import java.nio.file.Files;
import java.nio.file.Path;
import java.nio.file.Paths;
import java.util.List;
import java.util.TreeSet;
import java.util.regex.Matcher;
import java.util.regex.Pattern;
import javax.tools.JavaCompiler;
import javax.tools.ToolProvider;

/** README.md: its blocks of Java compile, each call answers as it says, and it names each call and each test. */
public final class ReadmeTest {
    private static final String NEW_MATCH = "Scrumward match = new Scrumward();";
    private static final Pattern CALL =
            Pattern.compile("(\\w+ (\\w+) = )?((?:\\(char\\) )?match\\.(\\w+)\\([^;]*\\)); +// (.+?)(: .+)?");
    private static final Pattern TEST = Pattern.compile("`(\\w+Test)`");

    private final Check check = new Check("ReadmeTest");
    private final StringBuilder program = new StringBuilder();
    private final TreeSet<String> called = new TreeSet<String>();
    private int blocks;

    public static void main(String[] args) throws IOException, ReflectiveOperationException {
        List<String> lines = Files.readAllLines(Paths.get("README.md"));
        ReadmeTest test = new ReadmeTest();
        test.writeProgram(lines);
        test.runProgram();
        test.namesEachCall();
        test.namesEachTest(lines);
        test.check.end();
    }

    /** Makes a class of the blocks, with a method for each of them. */
    private void writeProgram(List<String> lines) {
        boolean isInside = false;
        program.append("public final class ReadmeBlocks {\n");
        for (String line : lines) {
            if (line.equals("```java")) {
                isInside = true;
                program.append("static void block").append(blocks++).append("(Check check) {\n");
            } else if (isInside && line.equals("```")) {
                isInside = false;
                program.append("}\n");
            } else if (isInside) {
                writeLine(line);
            }
        }
        program.append("public static void main(Check check) {\n");
        for (int i = 0; i < blocks; i++) {
            program.append("block").append(i).append("(check);\n");
        }
        program.append("}\n}\n");
        check.due("blocks of Java", blocks > 0, true);
    }

    private void writeLine(String line) {
        Matcher call = CALL.matcher(line);
        if (line.equals(NEW_MATCH)) {
            program.append(line).append('\n');
        } else if (call.matches()) {
            called.add(call.group(4));
            writeCall(call, "\"README.md: " + line.replace("\"", "\\\"") + "\"");
        } else {
            check.dueText("a line that is no call with its answer", line, "");
        }
    }

    private void writeCall(Matcher call, String what) {
        String answer = call.group(5);
        String got = call.group(3);
        if (answer.startsWith("throws ")) {
            String name = answer.substring("throws ".length());
            String home = name.equals("NoSuchElementException") ? "java.util." : "";
            program.append("check.fails(").append(what).append(", ").append(home).append(name);
            program.append(".class, () -> ").append(got).append(");\n");
            return;
        }
        if (call.group(1) != null) {
            program.append(call.group(1)).append(got).append(";\n");
            got = call.group(2);
        }
        String compare = answer.contains(".") ? "check.dueDouble(" : "check.due(";
        program.append(compare).append(what).append(", ").append(got).append(", ").append(answer).append(");\n");
    }

    /** Beside the other tests, since their class Check is of one loader. */
    private void runProgram() throws IOException, ReflectiveOperationException {
        String place = System.getProperty("java.class.path").split(File.pathSeparator)[0];
        Path source = Paths.get(place, "ReadmeBlocks.java");
        Files.writeString(source, program);
        JavaCompiler compiler = ToolProvider.getSystemJavaCompiler();
        int code = compiler.run(null, null, null, "-encoding", "UTF-8", "-cp", place, "-d", place, source.toString());
        check.due("the blocks compile, as " + source, code, 0);
        if (code == 0) {
            Method main = Class.forName("ReadmeBlocks").getMethod("main", Check.class);
            try {
                main.invoke(null, check);
            } catch (InvocationTargetException e) {
                check.dueText("a call of the blocks", "throws " + e.getCause(), "throws nothing");
            }
        }
    }

    private void namesEachCall() {
        for (Method method : Scrumward.class.getDeclaredMethods()) {
            if (Modifier.isPublic(method.getModifiers())) {
                check.due("README.md shows " + method.getName(), called.contains(method.getName()), true);
            }
        }
    }

    private void namesEachTest(List<String> lines) {
        TreeSet<String> named = new TreeSet<String>();
        Matcher name = TEST.matcher(String.join("\n", lines));
        while (name.find()) {
            named.add(name.group(1));
        }
        TreeSet<String> there = new TreeSet<String>();
        String[] files = new File("src/test/java").list();
        for (String file : files == null ? new String[0] : files) {
            if (file.endsWith("Test.java")) {
                there.add(file.substring(0, file.length() - ".java".length()));
            }
        }
        check.dueText("the tests that README.md names", named.toString(), there.toString());
    }
}
