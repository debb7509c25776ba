import java.lang.reflect.Method;
import java.lang.reflect.Modifier;
import java.nio.file.Files;
import java.nio.file.Path;
import java.util.regex.Matcher;
import java.util.regex.Pattern;

/** README.md shows calls with their answers, and names every call of the face: both are held against the class. */
final class ReadmeTests extends Bench {
    /** A row of the page: a call, and behind // the answer that is due. */
    private static final Pattern ROW = Pattern.compile("^(?:clock\\.(\\w+)|(tell))\\((.*)\\); +// (-?\\d+|true|false)\\b.*$");

    public static void main(String[] args) throws Exception {
        String page = Files.readString(Path.of("README.md"));
        everyCallIsNamed(page);
        everyRowIsSo(page);
        finish("ReadmeTests");
    }

    private static void everyCallIsNamed(String page) {
        for (Method m : RopeClock.class.getDeclaredMethods()) {
            if (Modifier.isPublic(m.getModifiers())) {
                promise = "README.md names " + m.getName();
                due(true, page.contains("`" + m.getName() + "("));
            }
        }
    }

    private static void everyRowIsSo(String page) throws Exception {
        RopeClock clock = new RopeClock();
        int rows = 0;
        for (String line : page.split("\n")) {
            Matcher row = ROW.matcher(line);
            if (row.matches()) {
                rows++;
                promise = "README.md: " + line;
                same(row.group(4), answer(clock, row));
            } else if (line.startsWith("clock.") || line.startsWith("tell(")) {
                promise = "README.md: a row without an answer: " + line;
                due(true, false);
            }
        }
        promise = "README.md shows how the class is used";
        due(true, rows > 20);
    }

    private static String answer(RopeClock clock, Matcher row) throws Exception {
        String[] told = row.group(3).isEmpty() ? new String[0] : row.group(3).split(", ", row.group(2) == null ? -1 : 3);
        if (row.group(2) != null) {
            return "" + tell(clock, Integer.parseInt(told[1]), told[2].substring(1, told[2].length() - 1));
        }
        for (Method m : RopeClock.class.getDeclaredMethods()) {
            if (m.getName().equals(row.group(1)) && m.getParameterCount() == told.length) {
                Object[] given = new Object[told.length];
                for (int i = 0; i < told.length; i++) {
                    given[i] = m.getParameterTypes()[i] == int.class
                            ? (Object) Integer.valueOf(told[i]) : (Object) Boolean.valueOf(told[i]);
                }
                return "" + m.invoke(clock, given);
            }
        }
        return "no such call";
    }
}
