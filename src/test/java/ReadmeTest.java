import java.lang.reflect.Method;
import java.nio.file.Files;
import java.nio.file.Path;
import java.util.regex.Matcher;
import java.util.regex.Pattern;

/** The calls that README.md shows, one behind the other on one object, answer what stands behind them there. */
public final class ReadmeTest {
    private static final Checks CHECKS = new Checks();
    private static final String MADE = "Ringdays x = new Ringdays();";
    private static final Pattern SHOWN = Pattern.compile("x\\.(\\w+)\\((.*)\\); +// (-?\\d+|\".*\").*");

    public static void main(String[] args) throws Exception {
        Ringdays x = null;
        int shown = 0;
        for (String line : Files.readAllLines(Path.of("README.md"))) {
            Matcher call = SHOWN.matcher(line);
            if (line.startsWith(MADE)) {
                x = new Ringdays();
            } else if (line.startsWith("x.")) {
                CHECKS.due("README.md can be read: " + line, true, call.matches());
                CHECKS.due("README.md: " + line, call.group(3), answer(x, call.group(1), call.group(2)));
                shown++;
            }
        }
        CHECKS.due("README.md shows calls", true, shown > 0);
        CHECKS.end();
    }

    private static String answer(Ringdays x, String name, String told) throws Exception {
        String[] texts = told.isEmpty() ? new String[0] : told.split(", ");
        Object[] values = new Object[texts.length];
        Class<?>[] kinds = new Class<?>[texts.length];
        for (int place = 0; place < texts.length; place++) {
            boolean isNumber = texts[place].matches("-?\\d+");
            kinds[place] = isNumber ? int.class : boolean.class;
            values[place] = isNumber ? (Object) Integer.valueOf(texts[place]) : (Object) Boolean.valueOf(texts[place]);
        }
        Method method = Ringdays.class.getMethod(name, kinds);
        Object answer = method.invoke(x, values);
        return answer instanceof String ? "\"" + answer + "\"" : String.valueOf(answer);
    }
}
