import java.io.IOException;
import java.lang.reflect.Method;
import java.nio.file.Files;
import java.nio.file.Path;
import java.util.List;
import java.util.regex.Matcher;
import java.util.regex.Pattern;

/** What README.md shows is what the class answers; it is run from the project's directory. */
public final class ReadmeTest {
    private static final Pattern CALL = Pattern.compile("link\\.(\\w+)\\((.*)\\);\\s+// (-?\\w+)\\b.*");
    private static final Pattern RATE = Pattern.compile("\\| (\\d) \\| (\\d) \\| (\\d+) \\| (\\d+) \\|");
    private static final String SHORT = "(short) ";

    private ReadmeTest() {
    }

    public static void main(String[] args) throws IOException, ReflectiveOperationException {
        List<String> lines = Files.readAllLines(Path.of("README.md"));
        calls(lines);
        rates(lines);
        Check.end();
    }

    private static void calls(List<String> lines) throws ReflectiveOperationException {
        CarrierLink link = new CarrierLink();
        int shown = 0;
        for (String line : lines) {
            if (line.startsWith("link.")) {
                Matcher call = CALL.matcher(line);
                Check.holds(line + " tells an answer", call.matches());
                if (call.matches()) {
                    Check.same(line, answer(link, call.group(1), call.group(2)), call.group(3));
                }
                shown++;
            }
        }
        Check.holds("calls are shown", shown > 0);
    }

    private static String answer(CarrierLink link, String name, String list) throws ReflectiveOperationException {
        for (Method method : CarrierLink.class.getMethods()) {
            if (method.getName().equals(name)) {
                Class<?>[] types = method.getParameterTypes();
                String[] words = list.isEmpty() ? new String[0] : list.split(", ");
                Object[] arguments = new Object[words.length];
                for (int k = 0; k < words.length; k++) {
                    arguments[k] = argument(types[k], words[k]);
                }
                return String.valueOf(method.invoke(link, arguments));
            }
        }
        return "no such call";
    }

    private static Object argument(Class<?> type, String word) {
        if (type == boolean.class) {
            return Boolean.valueOf(word);
        }
        if (type == short.class) {
            // A call takes no int for a short, so what is shown must hold the cast.
            Check.holds(word + " is cast to short", word.startsWith(SHORT));
            return Short.decode(word.replace(SHORT, ""));
        }
        long number = Long.decode(word);
        return type == long.class ? (Object) number : (Object) (int) number;
    }

    private static void rates(List<String> lines) {
        int shown = 0;
        for (String line : lines) {
            Matcher row = RATE.matcher(line);
            if (row.matches()) {
                rate(Integer.parseInt(row.group(1)), row);
                shown++;
            }
        }
        Check.same("rates that are shown", shown, 4);
    }

    private static void rate(int rate, Matcher row) {
        CarrierLink link = new CarrierLink();
        link.put(8, 0L);
        link.put(4, 0L);
        int samples = link.send(rate, 1);
        int symbols = (samples - 100) / 20;
        Check.same("samples with rate " + rate, samples, Integer.parseInt(row.group(4)));
        Check.same("bits with rate " + rate, link.bit(2, -1), 12 * symbols * Integer.parseInt(row.group(2)));
        Check.same("data with rate " + rate, link.bit(0, -1), symbols * Integer.parseInt(row.group(3)));
    }
}
