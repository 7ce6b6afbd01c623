import java.io.IOException;
import java.lang.reflect.InvocationTargetException;
import java.lang.reflect.Method;
import java.util.ArrayList;
import java.util.List;
import java.util.regex.Matcher;
import java.util.regex.Pattern;

/** The calls of the example in README.md answer, or throw, what stands behind them there. */
final class ReadmeTest {
    private static final String FIRST = "HallSights hall = new HallSights();";
    private static final Pattern CALL =
            Pattern.compile("hall\\.(\\w+)\\(([^)]*)\\); +// (throws \\w+|-?[0-9.]+)(:.*)?");

    private ReadmeTest() {
    }

    public static void main(String[] args) throws IOException, ReflectiveOperationException {
        String[] lines = Texts.javaOf(Texts.readme());
        Check.holds("the example begins with a new object",
                lines.length > 1 && lines[0].equals(FIRST));
        HallSights hall = new HallSights();
        for (int at = 1; at < lines.length; at++) {
            Matcher call = CALL.matcher(lines[at]);
            if (call.matches()) {
                String got = answer(hall, call.group(1), call.group(2));
                Check.holds(call.group(1) + "(" + call.group(2) + ") answers " + call.group(3)
                        + " (it is " + got + ")", got.equals(call.group(3)));
            } else {
                Check.say("README.md has a line that is no call: " + lines[at]);
            }
        }
        Check.end("ReadmeTest");
    }

    private static String answer(HallSights hall, String name, String arguments)
            throws ReflectiveOperationException {
        List<Object> values = new ArrayList<>();
        List<Class<?>> types = new ArrayList<>();
        for (String argument : arguments.isEmpty() ? new String[0] : arguments.split(", ")) {
            values.add(argument.startsWith("'") ? argument.charAt(1) : Integer.parseInt(argument));
            types.add(int.class);
        }
        Method method = HallSights.class.getMethod(name, types.toArray(new Class<?>[0]));
        try {
            return String.valueOf(method.invoke(hall, values.toArray()));
        } catch (InvocationTargetException thrown) {
            return "throws " + thrown.getCause().getClass().getSimpleName();
        }
    }
}
