import java.io.IOException;
import java.lang.reflect.InvocationTargetException;
import java.lang.reflect.Method;
import java.nio.file.Files;
import java.nio.file.Path;
import java.util.regex.Matcher;
import java.util.regex.Pattern;

/** README.md tells the truth: its example is played line by line, and its table has every call of the face. */
public final class ReadmeTest {
    private static final Pattern CALL = Pattern.compile("loom\\.(\\w+)\\(([^)]*)\\); +// (-?\\w+):");
    private static final int FEWEST_CALLS = 20;

    public static void main(String[] args) throws IOException, ReflectiveOperationException {
        Check c = new Check();
        String text = Files.readString(readme(args));
        playExample(c, text);
        for (Method m : HandLoom.class.getDeclaredMethods()) {
            if (java.lang.reflect.Modifier.isPublic(m.getModifiers())) {
                c.due(m.getName() + " is in the table", text.contains("| `" + m.getName() + "("), true);
            }
        }
        for (String test : tests(args)) {
            c.due(test + " is in the list of tests", text.contains("| `" + test + "` |"), true);
        }
        c.close();
    }

    /** The program's file is the first argument; README.md stands four levels above it. */
    private static Path root(String[] args) {
        Path program = Path.of(args.length > 0 ? args[0] : "src/main/java/HandLoom.java").toAbsolutePath();
        return program.getParent().getParent().getParent().getParent();
    }

    private static Path readme(String[] args) {
        return root(args).resolve("README.md");
    }

    private static String[] tests(String[] args) {
        String[] files = root(args).resolve("src/test/java").toFile().list((where, name) -> name.endsWith("Test.java"));
        if (files == null) {
            return new String[0];
        }
        for (int k = 0; k < files.length; k++) {
            files[k] = files[k].replace(".java", "");
        }
        return files;
    }

    private static void playExample(Check c, String text) throws ReflectiveOperationException {
        HandLoom loom = new HandLoom();
        int from = text.indexOf("```java");
        Matcher call = CALL.matcher(text.substring(from, text.indexOf("```", from + 3)));
        int played = 0;
        while (call.find()) {
            c.due("README.md: " + call.group(), answer(loom, call.group(1), call.group(2)), number(call.group(3)));
            played++;
        }
        c.due("the example is found", played >= FEWEST_CALLS, true);
    }

    private static long answer(HandLoom loom, String name, String written)
            throws IllegalAccessException, InvocationTargetException {
        String[] parts = written.isEmpty() ? new String[0] : written.split(", ");
        Object[] values = new Object[parts.length];
        for (int k = 0; k < parts.length; k++) {
            values[k] = (int) number(parts[k]);
        }
        for (Method m : HandLoom.class.getDeclaredMethods()) {
            if (m.getName().equals(name)) {
                Object got = m.invoke(loom, values);
                return got instanceof Boolean yes ? (yes ? 1 : 0) : (Integer) got;
            }
        }
        throw new IllegalArgumentException("no call " + name);
    }

    private static long number(String word) {
        if (word.startsWith("1 << ")) {
            return 1L << Integer.parseInt(word.substring(5));
        }
        switch (word) {
            case "NONE":
                return HandLoom.NONE;
            case "true":
                return 1;
            case "false":
                return 0;
            default:
                return Long.parseLong(word);
        }
    }
}
