import java.lang.reflect.Method;
import java.nio.file.Files;
import java.nio.file.Path;
import java.util.Set;
import java.util.TreeSet;
import java.util.regex.Matcher;
import java.util.regex.Pattern;

/** What README.md says that calls answer is what they answer, and it leaves no call out. */
public final class ReadmeTest {
    private static final Pattern BLOCK = Pattern.compile("(?s)```java\n(.*?)```");
    private static final Pattern CALL = Pattern.compile("x\\.(\\w+)\\(([^)]*)\\); +// (-?\\w+)(:.*)?");

    public static void main(String[] args) throws Exception {
        String page = Files.readString(Path.of("README.md"));
        RegretLocks x = new RegretLocks();
        int calls = 0;
        Matcher blocks = BLOCK.matcher(page);
        while (blocks.find()) {
            for (String line : blocks.group(1).split("\n")) {
                if (!line.equals("RegretLocks x = new RegretLocks();")) {
                    ask(x, line);
                    calls++;
                }
            }
        }
        Due.holds("there are examples: " + calls, calls > 60);
        everyCallIsNamed(page);
        Due.end("ReadmeTest");
    }

    private static void ask(RegretLocks x, String line) throws Exception {
        Matcher call = CALL.matcher(line);
        if (!call.matches()) {
            Due.holds("a call and its answer: " + line, false);
            return;
        }
        String[] words = call.group(2).isEmpty() ? new String[0] : call.group(2).split(", ");
        Object[] values = new Object[words.length];
        for (int i = 0; i < words.length; i++) {
            values[i] = number(words[i]);
        }
        for (Method m : RegretLocks.class.getMethods()) {
            if (m.getName().equals(call.group(1)) && m.getParameterCount() == values.length) {
                Due.due(line, number(call.group(3)), (Integer) m.invoke(x, values));
                return;
            }
        }
        Due.holds("there is such a call: " + line, false);
    }

    private static int number(String word) throws Exception {
        if (word.startsWith("0x")) {
            return Integer.parseUnsignedInt(word.substring(2), 16);
        }
        return Character.isUpperCase(word.charAt(0)) ? RegretLocks.class.getField(word).getInt(null) : Integer.parseInt(word);
    }

    private static void everyCallIsNamed(String page) {
        Set<String> named = new TreeSet<>();
        Matcher heads = Pattern.compile("(?m)^### .*$").matcher(page);
        while (heads.find()) {
            Matcher names = Pattern.compile("`(\\w+)`").matcher(heads.group());
            while (names.find()) {
                Due.holds(names.group(1) + " is named once", named.add(names.group(1)));
            }
        }
        Set<String> calls = new TreeSet<>();
        for (Method m : RegretLocks.class.getDeclaredMethods()) {
            if (java.lang.reflect.Modifier.isPublic(m.getModifiers())) {
                calls.add(m.getName());
            }
        }
        Due.holds("the page names " + named + ", the class has " + calls, named.equals(calls));
    }
}
