import java.nio.file.Files;
import java.nio.file.Path;
import java.util.List;
import java.util.Map;
import java.util.Set;
import java.util.TreeMap;
import java.util.TreeSet;
import java.util.regex.Matcher;
import java.util.regex.Pattern;

/** What of ../shared/LANGUAGE.md can be seen from the words of the source alone. */
public final class LanguageTest {
    private static final Set<String> LIBRARY = Set.of("Math", "Arrays", "System", "Integer", "Long", "List", "ArrayList");
    private static final Set<String> CALLS = Set.of("Math.max", "Math.min", "Arrays.fill", "Arrays.copyOf", "System.arraycopy");

    public static void main(String[] args) throws Exception {
        List<String> lines = Files.readAllLines(Path.of("src/main/java/RegretLocks.java"));
        String source = String.join("\n", lines);
        Due.holds("plain signs alone", source.chars().allMatch(c -> c == '\n' || c >= 32 && c < 127));
        String code = source.replaceAll("(?s)/\\*.*?\\*/", "").replaceAll("//[^\n]*", "");
        String words = code.replaceAll("'[^']*'", "0").replaceAll("\"[^\"]*\"", "\"\"");
        for (String word : List.of("throw", "throws", "try", "catch", "finally", "synchronized", "assert", "package", "native",
            "volatile", "transient", "strictfp", "protected", "float", "double", "NaN", "Object", "Thread", "Random", "hashCode")) {
            Due.holds("no word " + word, !Pattern.compile("\\b" + word + "\\b").matcher(words).find());
        }
        Due.holds("no lambda", !words.contains("->"));
        Due.holds("no method reference", !words.contains("::"));
        Due.holds("no joining of texts by +", !Pattern.compile("\"\\s*\\+|\\+\\s*\"").matcher(words).find());
        Due.holds("one import", words.lines().filter(l -> l.startsWith("import ")).toList().equals(List.of("import java.util.Arrays;")));
        Matcher calls = Pattern.compile("\\b([A-Z][A-Za-z]*)\\.([a-z][A-Za-z]*)\\(").matcher(words);
        TreeSet<String> used = new TreeSet<>();
        while (calls.find()) {
            if (LIBRARY.contains(calls.group(1))) {
                used.add(calls.group(1) + "." + calls.group(2));
            }
        }
        Due.holds("the library's calls " + used, CALLS.containsAll(used));
        staticFields(words);
        methods(lines);
        depth(words);
        Due.end("LanguageTest");
    }

    private static void staticFields(String words) {
        Matcher fields = Pattern.compile("(?m)^ +(.*\\bstatic\\b[^(]*?)[=;].*$").matcher(words);
        while (fields.find()) {
            String field = fields.group(1);
            if (!field.contains(" class ")) {
                Due.holds("final, of int or ints: " + field, field.matches("((public|private) )?static final int(\\[\\])? \\w+ "));
            }
        }
    }

    /** Methods end at a brace as deep as they begin. */
    private static void methods(List<String> lines) {
        Pattern head = Pattern.compile("^( +)(?! )(?!(if|for|while|switch|else|return)\\b)[\\w\\[\\]<> ]+\\(.*\\) \\{$");
        int longest = 0;
        int found = 0;
        for (int i = 0; i < lines.size(); i++) {
            Matcher m = head.matcher(lines.get(i));
            if (m.matches() && !m.group().contains("else if")) {
                int end = i;
                while (!lines.get(end).equals(m.group(1) + "}")) {
                    end++;
                }
                longest = Math.max(longest, end - i + 1);
                found++;
            }
        }
        Due.holds("methods were found: " + found, found > 90);
        Due.holds("sixty lines at most: " + longest, longest <= 60);
    }

    /** Who calls whom, told by names; a call that another object is asked goes to all classes but the own that have it. */
    private static void depth(String words) {
        Map<String, String> bodies = new TreeMap<>();
        Matcher heads = Pattern.compile("(?m)^( +)(?:(?:public|private|static) )*[\\w\\[\\]]+ (\\w+)\\([^;{}()]*\\) \\{$").matcher(words);
        while (heads.find()) {
            int end = words.indexOf("\n" + heads.group(1) + "}", heads.end());
            bodies.put(ownerAt(words, heads.start()) + "." + heads.group(2), words.substring(heads.end(), end));
        }
        Map<String, Integer> known = new TreeMap<>();
        int deepest = 0;
        for (String method : bodies.keySet()) {
            deepest = Math.max(deepest, depthOf(method, bodies, known, 0));
        }
        Due.holds("bodies were found: " + bodies.size(), bodies.size() > 90);
        Due.holds("from freed to join: " + known.get("RegretLocks.freed"), known.get("RegretLocks.freed") == 8);
        Due.holds("eight calls deep at most: " + deepest, deepest <= 8);
    }

    private static String ownerAt(String words, int place) {
        Matcher classes = Pattern.compile("\\bclass (\\w+)").matcher(words.substring(0, place));
        String owner = "";
        while (classes.find()) {
            owner = classes.group(1);
        }
        return owner;
    }

    private static int depthOf(String method, Map<String, String> bodies, Map<String, Integer> known, int open) {
        if (open > 100) {
            Due.holds("no recursion in " + method, false);
            return 0;
        }
        if (!known.containsKey(method)) {
            int below = 0;
            Matcher calls = Pattern.compile("(\\.?)\\b(\\w+)\\(").matcher(bodies.get(method));
            while (calls.find()) {
                for (String other : bodies.keySet()) {
                    boolean own = ownerOf(other).equals(ownerOf(method));
                    boolean fits = calls.group(1).isEmpty() ? own || ownerOf(other).equals("RegretLocks") : !own;
                    if (fits && other.endsWith("." + calls.group(2))) {
                        below = Math.max(below, depthOf(other, bodies, known, open + 1));
                    }
                }
            }
            known.put(method, 1 + below);
        }
        return known.get(method);
    }

    private static String ownerOf(String method) {
        return method.substring(0, method.indexOf('.'));
    }
}
