import java.lang.reflect.InvocationTargetException;
import java.lang.reflect.Method;
import java.nio.file.Files;
import java.nio.file.Path;
import java.util.Map;
import java.util.regex.Matcher;
import java.util.regex.Pattern;

/** The examples of README.md answer what stands behind them; run at the project's root. */
public final class ReadmeTest extends Checks {
    private static final Pattern EXAMPLE = Pattern.compile("(?s)```java\n(.*?)```");
    private static final Pattern NEW = Pattern.compile("LikelyWalks walks = new LikelyWalks\\(\\);");
    private static final Pattern TYPE =
        Pattern.compile("for \\(char c : \"([^\"]*)\"\\.toCharArray\\(\\)\\) \\{ walks\\.type\\(c\\); \\}");
    private static final Pattern CALL = Pattern.compile("walks\\.(\\w+)\\((.*?)\\); +// (-?\\d+|[A-Z_]+)\\b.*");
    private static final Map<String, Integer> NAMED = Map.of("UNKNOWN", UNKNOWN, "BAD_VALUE", BAD_VALUE, "FULL", FULL,
        "NOT_POSSIBLE", NOT_POSSIBLE, "NONE", NONE);

    /** Both are asked all, so that an example is no mistake that the class shares. */
    private Face walks = new Walks();
    private Face model = new PlainModel();

    public static void main(String[] args) throws Exception {
        String readme = Files.readString(Path.of("README.md"));
        int examples = 0;
        Matcher blocks = EXAMPLE.matcher(readme);
        while (blocks.find()) {
            examples++;
            about("example " + examples);
            ReadmeTest test = new ReadmeTest();
            for (String line : blocks.group(1).split("\n")) {
                test.oneLine(line);
            }
        }
        about("README.md");
        for (Method method : Face.class.getDeclaredMethods()) {
            if (!readme.contains("`" + method.getName() + "(")) {
                fault("does not name " + method.getName());
            }
        }
        if (!readme.contains("bash .ci/run")) {
            fault("does not say how to run the tests");
        }
        end("examples: " + examples);
    }

    private void oneLine(String line) throws ReflectiveOperationException {
        Matcher type = TYPE.matcher(line);
        Matcher call = CALL.matcher(line);
        if (NEW.matcher(line).matches()) {
            walks = new Walks();
            model = new PlainModel();
        } else if (type.matches()) {
            for (char c : type.group(1).toCharArray()) {
                due("type(" + c + ")", walks.type(c), model.type(c));
            }
        } else if (call.matches()) {
            oneCall(call.group(1), call.group(2), call.group(3));
        } else {
            fault("nothing is due of: " + line);
        }
    }

    private void oneCall(String name, String arguments, String answer) throws ReflectiveOperationException {
        String[] words = arguments.isEmpty() ? new String[0] : arguments.split(", ");
        int want = NAMED.containsKey(answer) ? NAMED.get(answer) : Integer.parseInt(answer);
        for (Method method : Face.class.getDeclaredMethods()) {
            if (method.getName().equals(name) && method.getParameterCount() == words.length) {
                String call = name + "(" + arguments + ")";
                due(call, ask(walks, method, words), want);
                due(call + " of the model", ask(model, method, words), want);
                return;
            }
        }
        fault("there is no call " + name + " with " + words.length + " arguments");
    }

    private static int ask(Face face, Method method, String[] words) throws ReflectiveOperationException {
        Object[] values = new Object[words.length];
        for (int i = 0; i < words.length; i++) {
            values[i] = valueOf(method.getParameterTypes()[i], words[i]);
        }
        try {
            return (int) method.invoke(face, values);
        } catch (InvocationTargetException thrown) {
            fault(method.getName() + " threw " + thrown.getCause());
            return 0;
        }
    }

    private static Object valueOf(Class<?> type, String word) {
        if (type == boolean.class) {
            return Boolean.valueOf(word);
        }
        return type == char.class ? (Object) word.charAt(1) : Integer.valueOf(word);
    }
}
