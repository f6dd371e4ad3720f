import java.io.IOException;
import java.lang.reflect.InvocationTargetException;
import java.lang.reflect.Method;
import java.lang.reflect.Modifier;
import java.nio.file.Files;
import java.nio.file.Path;
import java.util.HashSet;
import java.util.Set;
import java.util.regex.Matcher;
import java.util.regex.Pattern;

/** README.md tells no wrong answer: its calls are made in their order, and it names every method. */
public final class ReadmeTest {
    // A call, and the first word of what it answers.
    private static final Pattern CALL = Pattern.compile("day\\.(\\w+)\\((.*)\\); +// ([-\\w]+): .*");
    private static final Pattern ROW = Pattern.compile("(?m)^\\| `(\\w+)\\(");

    private ReadmeTest() {
    }

    public static void main(String[] args) throws IOException, ReflectiveOperationException {
        String readme = Files.readString(Path.of("README.md"));
        Set<String> called = callAll(block(readme));
        Set<String> explained = new HashSet<>();
        Matcher row = ROW.matcher(readme);
        while (row.find()) {
            explained.add(row.group(1));
        }
        for (Method method : TwoLakes.class.getDeclaredMethods()) {
            if (Modifier.isPublic(method.getModifiers())) {
                Due.yes("README.md calls " + method.getName(), called.contains(method.getName()));
                Due.yes("README.md explains " + method.getName(), explained.contains(method.getName()));
            }
        }
        Due.end();
    }

    private static String block(String readme) {
        int from = readme.indexOf("```java\n");
        int to = readme.indexOf("```\n", from + 1);
        Due.yes("README.md has an example", from >= 0 && to > from);
        return from >= 0 && to > from ? readme.substring(from, to) : "";
    }

    /** The names of the methods that were called. */
    private static Set<String> callAll(String block) throws ReflectiveOperationException {
        Set<String> called = new HashSet<>();
        TwoLakes day = new TwoLakes();
        for (String line : block.split("\n")) {
            if (line.startsWith("day.")) {
                Matcher call = CALL.matcher(line);
                Due.yes("README.md tells the answer: " + line, call.matches());
                String answer = answer(day, call.group(1), call.group(2));
                Due.yes(line + " answered " + answer + ", which", answer.equals(plain(call.group(3))));
                called.add(call.group(1));
            }
        }
        return called;
    }

    private static String plain(String told) {
        String none = Integer.toString(TwoLakes.NONE);
        String never = Integer.toString(TwoLakes.NEVER);
        return told.equals("NONE") ? none : told.equals("NEVER") ? never : told;
    }

    private static String answer(TwoLakes day, String name, String list) throws ReflectiveOperationException {
        String[] words = list.isEmpty() ? new String[0] : list.split(", ");
        Class<?>[] types = new Class<?>[words.length];
        Object[] numbers = new Object[words.length];
        for (int i = 0; i < words.length; i++) {
            boolean yesOrNo = words[i].equals("true") || words[i].equals("false");
            types[i] = yesOrNo ? boolean.class : int.class;
            numbers[i] = yesOrNo ? (Object) Boolean.valueOf(words[i]) : (Object) Integer.valueOf(words[i]);
        }
        try {
            return TwoLakes.class.getMethod(name, types).invoke(day, numbers).toString();
        } catch (InvocationTargetException e) {
            return e.getCause().getClass().getSimpleName();
        }
    }
}
