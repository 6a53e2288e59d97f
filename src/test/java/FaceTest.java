import java.lang.reflect.Constructor;
import java.lang.reflect.Field;
import java.lang.reflect.Method;
import java.lang.reflect.Modifier;
import java.nio.file.Files;
import java.nio.file.Path;
import java.util.Arrays;
import java.util.List;
import java.util.Set;
import java.util.TreeSet;
import java.util.regex.Matcher;
import java.util.regex.Pattern;

/** The face is the document's and no more, and the source keeps to rules of LANGUAGE.md that can be seen here. */
public final class FaceTest {
    private FaceTest() {
    }

    public static void main(String[] args) throws Exception {
        face();
        nested();
        source();
        lengths();
        Due.end();
    }

    private static void face() {
        Due.part("rule 1");
        Class<?> c = GleanedSorry.class;
        Due.is("public and final", c.getModifiers(), Modifier.PUBLIC | Modifier.FINAL);
        Set<String> names = new TreeSet<>(Arrays.asList(Calls.NAMES));
        Set<String> found = new TreeSet<>();
        for (Method m : c.getDeclaredMethods()) {
            if (Modifier.isPublic(m.getModifiers())) {
                found.add(m.getName());
                Due.is(m + " answers an int", m.getReturnType() == int.class ? 1 : 0, 1);
                Due.is(m + " takes as many", m.getParameterCount(), Calls.arity(m.getName()));
                for (int i = 0; i < m.getParameterCount(); i++) {
                    boolean word = m.getName().equals("feed") && i == 0;
                    Due.is(m + " takes", m.getParameterTypes()[i] == (word ? long.class : int.class) ? 1 : 0, 1);
                }
            } else {
                Due.is(m + " is private", Modifier.isPrivate(m.getModifiers()) ? 1 : 0, 1);
                Due.is(m + " bears no public name", names.contains(m.getName()) ? 1 : 0, 0);
            }
        }
        Due.is("the document's methods " + found, found.equals(names) ? 1 : 0, 1);
        for (Constructor<?> k : c.getDeclaredConstructors()) {
            Due.is(k + " takes nothing", k.getParameterCount(), 0);
        }
        for (Field f : c.getDeclaredFields()) {
            Due.is(f + " is private", Modifier.isPrivate(f.getModifiers()) ? 1 : 0, 1);
        }
    }

    private static void nested() {
        Due.part("rules 1, 2, 5, 11");
        Class<?>[] inside = GleanedSorry.class.getDeclaredClasses();
        Due.is("at most twelve classes", inside.length + 1 <= 12 ? 1 : 0, 1);
        for (Class<?> c : inside) {
            Due.is(c + " is static", Modifier.isStatic(c.getModifiers()) ? 1 : 0, 1);
            Due.is(c + " is private", Modifier.isPrivate(c.getModifiers()) ? 1 : 0, 1);
            int fields = 0;
            for (Field f : c.getDeclaredFields()) {
                boolean fixed = Modifier.isStatic(f.getModifiers());
                fields += fixed ? 0 : 1;
                Due.is(f + " is final if static", fixed && !Modifier.isFinal(f.getModifiers()) ? 1 : 0, 0);
            }
            Due.is(c + " has some twenty fields", fields <= 20 ? 1 : 0, 1);
            for (Method m : c.getDeclaredMethods()) {
                Due.is(m + " takes seven at most", m.getParameterCount() <= 7 ? 1 : 0, 1);
                Due.is(m + " bears no public name", Arrays.asList(Calls.NAMES).contains(m.getName()) ? 1 : 0, 0);
            }
        }
    }

    private static void source() throws Exception {
        Due.part("rules 4, 6, 12, 13");
        String text = Files.readString(Path.of("src/main/java/GleanedSorry.java"));
        Due.is("plain signs alone", text.chars().allMatch(c -> c == '\n' || c >= 32 && c < 127) ? 1 : 0, 1);
        String code = text.replaceAll("(?s)/\\*.*?\\*/", "").replaceAll("//[^\n]*", "");
        String[] barred = {"throw", "throws", "try", "catch", "synchronized", "assert", "import", "package",
            "protected", "volatile", "native", "hashCode", "toString", "Thread", "Random", "System\\.(?!arraycopy)\\w+",
            "\\w+Exact", "->", "::", "@"};
        for (String word : barred) {
            String edge = Character.isLetter(word.charAt(0)) ? "\\b" : "";
            Due.is("no " + word, Pattern.compile(edge + word + edge).matcher(code).find() ? 1 : 0, 0);
        }
    }

    private static void lengths() throws Exception {
        Due.part("rule 11");
        Pattern first = Pattern.compile("( +)(?!if|for|while|switch|else|do\\b|try)[\\w\\[\\] ]+\\(.*\\) \\{");
        String end = null;
        String name = "";
        int from = 0;
        int methods = 0;
        List<String> lines = Files.readAllLines(Path.of("src/main/java/GleanedSorry.java"));
        for (int i = 0; i < lines.size(); i++) {
            Matcher m = first.matcher(lines.get(i));
            if (end == null && m.matches()) {
                end = m.group(1) + "}";
                name = lines.get(i).trim();
                from = i;
                methods++;
            } else if (lines.get(i).equals(end)) {
                Due.is(name + " has at most sixty lines", i - from + 1 <= 60 ? 1 : 0, 1);
                end = null;
            }
        }
        Due.is("methods were found", methods > Calls.NAMES.length ? 1 : 0, 1);
        Due.is("each one ends", end == null ? 1 : 0, 1);
    }
}
