import java.lang.reflect.Constructor;
import java.lang.reflect.Field;
import java.lang.reflect.Method;
import java.lang.reflect.Modifier;
import java.nio.file.Files;
import java.nio.file.Path;
import java.util.TreeSet;
import java.util.regex.Matcher;
import java.util.regex.Pattern;

/** The public face is the document's, and nothing else of the class can be seen from outside. */
public final class FaceTest {
    public static void main(String[] args) throws Exception {
        String face = Files.readString(Path.of("../shared/DOC.md"));
        face = face.substring(face.indexOf("```java"), face.indexOf("```", face.indexOf("```java") + 7));
        TreeSet<String> due = new TreeSet<>();
        Matcher methods = Pattern.compile("public (int \\w+|RegretLocks)\\(([^)]*)\\);").matcher(face);
        while (methods.find()) {
            due.add(methods.group(1) + " " + (methods.group(2).isEmpty() ? 0 : methods.group(2).split(",").length));
        }
        Matcher constants = Pattern.compile("([A-Z]+) = (-\\d+)").matcher(face);
        while (constants.find()) {
            due.add(constants.group(1) + " = " + constants.group(2));
        }
        Due.holds("the document's face was found", due.size() == 47 + 1 + 8);
        TreeSet<String> is = seen();
        for (String one : due) {
            Due.holds("the class has " + one, is.contains(one));
        }
        for (String one : is) {
            Due.holds("the document has " + one, due.contains(one));
        }
        int modifiers = RegretLocks.class.getModifiers();
        Due.holds("the class is public and final", Modifier.isPublic(modifiers) && Modifier.isFinal(modifiers));
        nested();
        Due.end("FaceTest");
    }

    private static TreeSet<String> seen() throws Exception {
        TreeSet<String> is = new TreeSet<>();
        for (Method m : RegretLocks.class.getDeclaredMethods()) {
            if (!Modifier.isPrivate(m.getModifiers())) {
                is.add((Modifier.isPublic(m.getModifiers()) ? "" : "hidden ") + m.getReturnType() + " " + m.getName() + " " + m.getParameterCount());
            }
        }
        for (Constructor<?> c : RegretLocks.class.getDeclaredConstructors()) {
            is.add(c.getName() + " " + c.getParameterCount());
        }
        for (Field f : RegretLocks.class.getDeclaredFields()) {
            if (!Modifier.isPrivate(f.getModifiers())) {
                is.add(f.getName() + " = " + f.getInt(null));
            }
        }
        return is;
    }

    private static void nested() {
        TreeSet<String> names = new TreeSet<>();
        for (Method m : RegretLocks.class.getDeclaredMethods()) {
            if (Modifier.isPublic(m.getModifiers())) {
                Due.holds(m.getName() + " has one body", names.add(m.getName()));
            }
        }
        Class<?>[] inside = RegretLocks.class.getDeclaredClasses();
        Due.holds("twelve classes at most", inside.length < 12);
        for (Class<?> c : inside) {
            int modifiers = c.getModifiers();
            Due.holds(c + " is static and not public", Modifier.isStatic(modifiers) && !Modifier.isPublic(modifiers));
            int fields = 0;
            for (Field f : c.getDeclaredFields()) {
                fields += Modifier.isStatic(f.getModifiers()) ? 0 : 1;
            }
            Due.holds(c + " has twenty fields at most", fields <= 20);
            for (Method m : c.getDeclaredMethods()) {
                Due.holds(c + "." + m.getName() + " does not bear a public name", !names.contains(m.getName()));
                Due.holds(c + "." + m.getName() + " has seven parameters at most", m.getParameterCount() <= 7);
            }
        }
        for (Method m : RegretLocks.class.getDeclaredMethods()) {
            if (Modifier.isPrivate(m.getModifiers())) {
                Due.holds(m.getName() + " does not bear a public name", !names.contains(m.getName()));
            }
        }
    }
}
