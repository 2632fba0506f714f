import java.io.IOException;
import java.io.InputStream;
import java.util.ArrayList;
import java.util.Arrays;
import java.util.Collections;
import java.util.List;
import java.util.TreeMap;
import java.util.TreeSet;

/** What LANGUAGE.md rules out and the compiled classes tell: library calls, recursion, depth, catches. */
public final class CompiledTest {
    private static final int DEEPEST = 8;
    // A part of what rule 4 lists; a call of that list that the class comes to need is added here.
    private static final TreeSet<String> LIBRARY = new TreeSet<String>(Arrays.asList(
        "java/lang/Object.<init>", "java/lang/Enum.<init>", "java/lang/Enum.valueOf",
        "java/lang/IllegalStateException.<init>", "java/lang/IllegalArgumentException.<init>",
        "java/lang/IndexOutOfBoundsException.<init>", "java/lang/ArithmeticException.<init>",
        "java/lang/UnsupportedOperationException.<init>", "java/util/NoSuchElementException.<init>",
        "java/util/ArrayList.<init>", "java/util/ArrayList.add", "java/util/ArrayList.get", "java/util/ArrayList.set",
        "java/util/ArrayList.remove", "java/util/ArrayList.size", "java/util/ArrayList.isEmpty",
        "java/util/ArrayList.clear", "java/lang/Math.max", "java/lang/Math.min", "java/lang/Math.abs",
        "java/util/Arrays.fill", "java/util/Arrays.copyOf", "java/lang/System.arraycopy"));

    private final Check check = new Check("CompiledTest");
    private final TreeMap<String, List<String>> calls = new TreeMap<String, List<String>>();
    private final TreeMap<String, Integer> depths = new TreeMap<String, Integer>();

    public static void main(String[] args) throws IOException {
        CompiledTest test = new CompiledTest();
        test.readClass(Scrumward.class);
        for (Class<?> inside : Scrumward.class.getDeclaredClasses()) {
            test.readClass(inside);
        }
        for (String method : test.calls.keySet()) {
            int depth = test.depthOf(method, new ArrayList<String>());
            test.check.due("11 at most " + DEEPEST + " deep: " + method, depth <= DEEPEST, true);
        }
        test.check.due("calls were found", test.depths.get("Scrumward.ground") > 2, true);
        test.check.end();
    }

    private void readClass(Class<?> one) throws IOException {
        try (InputStream in = one.getResourceAsStream("/" + one.getName() + ".class")) {
            ClassFile file = new ClassFile(in.readAllBytes());
            check.due("2, 10 a lambda or a text joined by +: " + one, file.hasDynamicCalls, false);
            check.due("6 a catch: " + one, file.hasCatches, false);
            for (String member : file.members) {
                // A row's own clone, which an enum's values() makes, is of its class and no library's.
                boolean isOwn = member.startsWith("Scrumward") || member.startsWith("[LScrumward");
                check.due("4 the library: " + member, isOwn || LIBRARY.contains(member), true);
            }
            calls.putAll(file.calls);
        }
    }

    /** How many of the class's own methods stand open at once, this one and those that it calls. */
    private int depthOf(String method, List<String> open) {
        check.due("8 recursion: " + open + " " + method, open.contains(method), false);
        Integer known = depths.get(method);
        if (known != null || open.contains(method)) {
            return known == null ? 0 : known;
        }
        open.add(method);
        int deepest = 0;
        for (String called : calls.getOrDefault(method, Collections.emptyList())) {
            if (calls.containsKey(called)) {
                deepest = Math.max(deepest, depthOf(called, open));
            }
        }
        open.remove(open.size() - 1);
        depths.put(method, deepest + 1);
        return deepest + 1;
    }
}
