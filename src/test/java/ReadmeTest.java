import java.nio.file.Files;
import java.nio.file.Path;
import java.util.regex.Matcher;
import java.util.regex.Pattern;

/** README.md tells how the class is used: its lines answer as they say, and it names every call as it is. */
public final class ReadmeTest {
    private static final Pattern LINE = Pattern.compile("(?m)^g\\.(\\w+)\\(([^)]*)\\); +// (-?\\d+)");

    private ReadmeTest() {
    }

    public static void main(String[] args) throws Exception {
        String readme = Files.readString(Path.of("README.md"));
        lines(readme);
        calls(readme);
        Due.end();
    }

    private static void lines(String readme) {
        Due.part("README.md, a line that answers");
        Ask o = new Ask();
        int played = 0;
        Matcher m = LINE.matcher(readme);
        while (m.find()) {
            o.due(Long.parseLong(m.group(3)), m.group(1), numbers(m.group(2)));
            played++;
        }
        Due.is("every line with a call is played", played, readme.split("\ng\\.", -1).length - 1);
        Due.is("there are some", played > 30 ? 1 : 0, 1);
    }

    private static long[] numbers(String list) {
        if (list.isEmpty()) {
            return new long[0];
        }
        String[] parts = list.split(", ");
        long[] row = new long[parts.length];
        for (int i = 0; i < row.length; i++) {
            boolean word = parts[i].endsWith("L");
            row[i] = Long.decode(word ? parts[i].substring(0, parts[i].length() - 1) : parts[i]);
        }
        return row;
    }

    private static void calls(String readme) {
        Due.part("README.md, the list of all calls");
        for (String name : Calls.NAMES) {
            Matcher m = Pattern.compile("`" + name + "\\(([^)]*)\\)`").matcher(readme);
            boolean found = m.find();
            Due.is(name + " is there", found ? 1 : 0, 1);
            int takes = !found || m.group(1).isEmpty() ? 0 : m.group(1).split(", ").length;
            Due.is(name + " takes as many", takes, Calls.arity(name));
        }
    }
}
