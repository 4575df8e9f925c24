import java.io.IOException;
import java.lang.reflect.Method;
import java.lang.reflect.Modifier;
import java.nio.file.Files;
import java.nio.file.Path;
import java.util.regex.Matcher;
import java.util.regex.Pattern;

/** What README.md says is what the class does: each line of its examples is called. */
public final class ReadmeTest {
    private static final Check check = new Check();

    private static final Pattern EXAMPLE = Pattern.compile("```java\n(.*?)```", Pattern.DOTALL);
    private static final String MAKING = "ScalarScribe scribe = new ScalarScribe();";
    private static final Pattern CALL =
            Pattern.compile("scribe\\.(\\w+)\\(([-\\w]*)\\);(?: +// (-?\\w+).*)?");
    // A call of the face that answers nothing has nothing behind it in the example, either.
    private static final String NO_ANSWER = "nothing";

    private static ScalarScribe scribe;

    public static void main(String[] args) throws IOException, ReflectiveOperationException {
        String readme = Files.readString(Path.of("README.md"));
        int examples = 0;
        for (Matcher m = EXAMPLE.matcher(readme); m.find(); examples++) {
            for (String line : m.group(1).split("\n")) {
                goThrough(line);
            }
        }
        check.due("README.md has examples", examples > 0, true);
        checkAllTold(readme);
        check.due("NONE is -1", ScalarScribe.NONE, -1);
        check.end();
    }

    private static void goThrough(String line) throws ReflectiveOperationException {
        if (line.equals(MAKING)) {
            scribe = new ScalarScribe();
            return;
        }
        Matcher call = CALL.matcher(line);
        boolean readable = call.matches();
        check.due("README.md, a line that can be called: " + line, readable, true);
        if (readable) {
            String told = call.group(3) == null ? NO_ANSWER : call.group(3);
            check.due("README.md, " + line, answerOf(call.group(1), call.group(2)), told);
        }
    }

    private static String answerOf(String name, String argument)
            throws ReflectiveOperationException {
        Object answer;
        if (argument.isEmpty()) {
            answer = ScalarScribe.class.getMethod(name).invoke(scribe);
        } else if (argument.equals("true") || argument.equals("false")) {
            answer = ScalarScribe.class.getMethod(name, boolean.class)
                    .invoke(scribe, Boolean.valueOf(argument));
        } else {
            answer = ScalarScribe.class.getMethod(name, int.class)
                    .invoke(scribe, Integer.valueOf(argument));
        }
        return answer == null ? NO_ANSWER : answer.toString();
    }

    private static void checkAllTold(String readme) {
        for (Method method : ScalarScribe.class.getDeclaredMethods()) {
            if (Modifier.isPublic(method.getModifiers())) {
                check.due("README.md tells of " + method.getName(),
                        readme.contains("`" + method.getName() + "("), true);
            }
        }
    }
}
