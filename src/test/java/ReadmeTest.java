import java.io.IOException;
import java.lang.reflect.Method;
import java.lang.reflect.Modifier;
import java.nio.file.Files;
import java.nio.file.Path;
import java.util.HashMap;
import java.util.Map;
import java.util.regex.Matcher;
import java.util.regex.Pattern;

/** Makes the calls of README.md's example and looks whether each answers what is told there. */
public final class ReadmeTest {
    private static final Pattern MADE = Pattern.compile("TwoFit town = new TwoFit\\(\\);");
    private static final Pattern CALL =
        Pattern.compile("(?:int (\\w+) = )?town\\.(\\w+)\\((.*?)\\);\\s+// (-?\\w+)(?::.*)?");
    private static final Map<String, Object> NAMED = new HashMap<>();
    private static int wrong = 0;
    private static int calls = 0;

    public static void main(String[] args) throws IOException, ReflectiveOperationException {
        String page = Files.readString(Path.of("README.md"));
        int from = page.indexOf("```java\n");
        int to = from < 0 ? -1 : page.indexOf("```", from + 8);
        if (to < 0) {
            tell("it has no example");
        } else {
            follow(page.substring(from + 8, to).split("\n"));
        }
        for (Method method : TwoFit.class.getDeclaredMethods()) {
            if (Modifier.isPublic(method.getModifiers()) && !page.contains("`" + method.getName() + "`")) {
                tell("it does not name " + method.getName());
            }
        }
        System.out.println(calls + " calls of README.md looked at, " + wrong + " wrong");
        if (wrong != 0) {
            System.exit(1);
        }
    }

    private static void tell(String what) {
        wrong++;
        System.out.println("README.md: " + what);
    }

    private static void follow(String[] lines) throws ReflectiveOperationException {
        if (!MADE.matcher(lines[0]).matches()) {
            tell("its example does not begin with a new town");
        }
        TwoFit town = new TwoFit();
        NAMED.put("TwoFit.NONE", TwoFit.NONE);
        for (int n = 1; n < lines.length; n++) {
            Matcher call = CALL.matcher(lines[n]);
            if (!call.matches()) {
                tell("this is no call with its answer: " + lines[n]);
                continue;
            }
            calls++;
            Object answer = answer(town, call.group(2), call.group(3).split(", "));
            if (call.group(1) != null) {
                NAMED.put(call.group(1), answer);
            }
            if (!String.valueOf(answer).equals(call.group(4))) {
                tell("it answered " + answer + ": " + lines[n]);
            }
        }
    }

    private static Object answer(TwoFit town, String name, String[] told) throws ReflectiveOperationException {
        for (Method method : TwoFit.class.getDeclaredMethods()) {
            if (method.getName().equals(name) && method.getParameterCount() == told.length) {
                Object[] values = new Object[told.length];
                for (int n = 0; n < told.length; n++) {
                    values[n] = value(told[n]);
                }
                return method.invoke(town, values);
            }
        }
        return "nothing, there is no such call";
    }

    private static Object value(String told) {
        if (NAMED.containsKey(told)) {
            return NAMED.get(told);
        }
        return told.equals("true") || told.equals("false") ? (Object) told.equals("true") : Integer.decode(told);
    }
}
