import java.lang.reflect.InvocationTargetException;
import java.lang.reflect.Method;
import java.nio.charset.StandardCharsets;
import java.nio.file.Files;
import java.nio.file.Path;
import java.util.Map;
import java.util.TreeMap;
import java.util.regex.Matcher;
import java.util.regex.Pattern;

/** Makes the calls of README.md one by one, and holds their answers against those that stand behind them there. */
public final class RopeMindReadme {
    private static final Pattern NEW = Pattern.compile("RopeMind x = new RopeMind\\(\\);");
    private static final Pattern CALL = Pattern.compile("(x\\.(\\w+)\\(([^)]*)\\));\\s*// (\\S+?)(:.*)?");
    private static final Pattern TELL = Pattern.compile("(tell\\(x, (\\d), \"([^\"]*)\"\\));\\s*// (\\S+?)(:.*)?");

    private static final Map<String, Method> FACE = new TreeMap<>();
    private static RopeMind x = null;
    private static int calls = 0;

    private RopeMindReadme() { }

    public static void main(String[] args) throws Exception {
        for (Method m : RopeMind.class.getMethods()) {
            if (m.getDeclaringClass() == RopeMind.class) {
                FACE.put(m.getName(), m);
            }
        }
        String page = Files.readString(Path.of("README.md"), StandardCharsets.UTF_8);
        Check.part("README.md");
        for (String line : page.split("\n")) {
            follow(line.strip());
        }
        Check.due("calls on the page", calls >= 25, true);
        everyCallIsNamed(page);
        Check.end();
    }

    private static void follow(String line) throws Exception {
        Matcher call = CALL.matcher(line);
        Matcher tell = TELL.matcher(line);
        if (NEW.matcher(line).matches()) {
            x = new RopeMind();
        } else if (call.matches()) {
            calls++;
            Check.due(call.group(1), answer(call.group(2), call.group(3)), number(call.group(4)));
        } else if (tell.matches()) {
            calls++;
            Check.due(tell.group(1), Check.tell(x, Integer.parseInt(tell.group(2)), tell.group(3)), number(tell.group(4)));
        } else {
            Check.due("a call that the test can read: " + line, line.startsWith("x.") && line.contains("//"), false);
        }
    }

    private static long answer(String name, String told) throws IllegalAccessException, InvocationTargetException {
        Method m = FACE.get(name);
        String[] words = told.isEmpty() ? new String[0] : told.split(", ");
        Object[] arguments = new Object[words.length];
        for (int i = 0; i < words.length; i++) {
            boolean truth = m.getParameterTypes()[i] == boolean.class;
            arguments[i] = truth ? (Object) words[i].equals("true") : (Object) (int) number(words[i]);
        }
        return number(String.valueOf(m.invoke(x, arguments)));
    }

    private static long number(String word) {
        return switch (word) {
            case "true" -> 1;
            case "false" -> 0;
            case "NONE" -> RopeMind.NONE;
            default -> Long.parseLong(word);
        };
    }

    private static void everyCallIsNamed(String page) {
        for (String name : FACE.keySet()) {
            Check.due("`" + name + "` is named", page.contains("`" + name + "`"), true);
        }
    }
}
