import java.io.IOException;
import java.lang.reflect.InvocationTargetException;
import java.lang.reflect.Method;
import java.nio.charset.StandardCharsets;
import java.nio.file.Files;
import java.nio.file.Path;
import java.util.NoSuchElementException;
import java.util.regex.Matcher;
import java.util.regex.Pattern;

/** The examples of README.md answer what is written behind them. */
public final class ReadmeTests extends Checks {
    private static final Path PAGE = Path.of("README.md");
    private static final Pattern NEW = Pattern.compile("DarkestDay x = new DarkestDay\\(\\);");
    private static final Pattern TOLD = Pattern.compile("tell\\(x, \"(.*)\"\\);");
    private static final Pattern CALL = Pattern.compile("x\\.(\\w+)\\((.*?)\\); +// (-?\\w+)(: .*)?");
    private static final int MIN_CALLS = 30;

    private static DarkestDay x = null;

    public static void main(String[] args) throws Exception {
        int calls = 0;
        boolean inExample = false;
        for (String line : Files.readAllLines(PAGE, StandardCharsets.UTF_8)) {
            at = "README: " + line;
            if (line.startsWith("```")) {
                inExample = false;
            } else if (NEW.matcher(line).matches()) {
                inExample = true;
                x = new DarkestDay();
            } else if (inExample) {
                calls += follow(line) ? 1 : 0;
            }
        }
        at = "README";
        due("the examples have enough calls", calls >= MIN_CALLS, true);
        finish("ReadmeTests");
    }

    /** Does what a line of an example says; answers whether it was a call with an answer behind it. */
    private static boolean follow(String line) throws IllegalAccessException, IOException {
        Matcher told = TOLD.matcher(line);
        Matcher call = CALL.matcher(line);
        if (told.matches()) {
            fill(x, told.group(1));
            return false;
        }
        boolean isCall = call.matches();
        due("this is an example's line", isCall, true);
        if (isCall) {
            due("it answers " + call.group(3), answer(call.group(1), call.group(2)).equals(call.group(3)), true);
        }
        return isCall;
    }

    private static String answer(String name, String told) throws IllegalAccessException, IOException {
        String[] words = told.isEmpty() ? new String[0] : told.split(", *");
        for (Method m : DarkestDay.class.getMethods()) {
            if (m.getName().equals(name) && m.getDeclaringClass() == DarkestDay.class) {
                try {
                    return m.invoke(x, arguments(m.getParameterTypes(), words)).toString();
                } catch (InvocationTargetException e) {
                    return e.getCause() instanceof NoSuchElementException ? "throws" : e.getCause().toString();
                }
            }
        }
        throw new IOException("the class has no " + name);
    }

    private static Object[] arguments(Class<?>[] types, String[] words) throws IOException {
        if (types.length != words.length) {
            throw new IOException(words.length + " arguments");
        }
        Object[] found = new Object[types.length];
        for (int i = 0; i < types.length; i++) {
            if (types[i] == boolean.class) {
                found[i] = Boolean.valueOf(words[i]);
            } else if (types[i] == long.class) {
                found[i] = Long.decode(words[i].replace("L", ""));
            } else {
                found[i] = Integer.decode(words[i]);
            }
        }
        return found;
    }
}
