import java.io.IOException;
import java.lang.reflect.InvocationTargetException;
import java.lang.reflect.Method;
import java.nio.file.Files;
import java.nio.file.Path;
import java.util.ArrayList;
import java.util.List;
import java.util.regex.Matcher;
import java.util.regex.Pattern;

/** The run of calls that README.md shows answers as it says there. */
public final class ReadmeTest {
    private static final Path README = Path.of("README.md");
    private static final String NEW = "NetMaps x = new NetMaps();";
    private static final Pattern CALL = Pattern.compile("x\\.(\\w+)\\((.*?)\\); *// (-?\\d+|true|false): .+");
    // A run that shows less is cut.
    private static final int FEWEST = 20;

    private static final List<String> wrong = new ArrayList<>();

    public static void main(String[] args) throws IOException, ReflectiveOperationException {
        NetMaps x = null;
        List<String> answers = new ArrayList<>();
        for (String line : shown()) {
            if (line.equals(NEW)) {
                x = new NetMaps();
            } else if (x == null) {
                wrong.add("no object is made ahead of '" + line + "'");
            } else {
                answers.add(answered(x, line));
            }
        }
        if (answers.size() < FEWEST) {
            wrong.add("it shows " + answers.size() + " calls");
        }
        for (String refusal : List.of("-1", "-2", "-3", "-4", "false", "-2004")) {
            if (!answers.contains(refusal)) {
                wrong.add("it shows no call that is refused with " + refusal);
            }
        }
        for (String fault : wrong) {
            System.out.println("README.md: " + fault);
        }
        System.out.println(wrong.isEmpty() ? "README.md: " + answers.size() + " calls answer as it says"
                : "README.md does not say what is so");
        if (!wrong.isEmpty()) {
            System.exit(1);
        }
    }

    /** The lines of the blocks of Java. */
    private static List<String> shown() throws IOException {
        List<String> shown = new ArrayList<>();
        boolean java = false;
        for (String line : Files.readAllLines(README)) {
            if (line.startsWith("```")) {
                java = line.equals("```java");
            } else if (java && !line.isBlank()) {
                shown.add(line.strip());
            }
        }
        return shown;
    }

    /** What the call of a line answers; that is what the line says. */
    private static String answered(NetMaps x, String line) throws ReflectiveOperationException {
        Matcher call = CALL.matcher(line);
        if (!call.matches()) {
            wrong.add("'" + line + "' is no call with its answer");
            return "";
        }
        String[] given = call.group(2).isBlank() ? new String[0] : call.group(2).split(", ");
        for (Method method : NetMaps.class.getMethods()) {
            if (method.getName().equals(call.group(1)) && method.getParameterCount() == given.length) {
                String got = answer(x, method, given);
                if (!got.equals(call.group(3))) {
                    wrong.add("'" + line + "': it answered " + got);
                }
                return got;
            }
        }
        wrong.add("'" + line + "': there is no such call");
        return "";
    }

    private static String answer(NetMaps x, Method method, String[] given) throws ReflectiveOperationException {
        Object[] values = new Object[given.length];
        for (int i = 0; i < given.length; i++) {
            boolean isBoolean = method.getParameterTypes()[i] == boolean.class;
            values[i] = isBoolean ? (Object) given[i].equals("true") : (Object) Long.decode(given[i]).intValue();
        }
        try {
            return String.valueOf(method.invoke(x, values));
        } catch (InvocationTargetException thrown) {
            return "by throwing " + thrown.getCause();
        }
    }
}
