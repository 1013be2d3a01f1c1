import java.lang.reflect.Method;
import java.lang.reflect.Modifier;
import java.nio.file.Files;
import java.nio.file.Path;
import java.util.List;
import java.util.regex.Matcher;
import java.util.regex.Pattern;

/** README.md's examples: each call is carried out, and answers what stands behind it. */
public final class ReadmeTest {
    private static final String NEW = "TokenFrames x = new TokenFrames();";
    private static final Pattern CALL = Pattern.compile("x\\.(\\w+)\\((.*?)\\); *// *(true|false|-?\\d+)?\\b.*");

    private final Checks checks = new Checks("README.md");
    private TokenFrames x;

    public static void main(String[] args) throws Exception {
        ReadmeTest test = new ReadmeTest();
        boolean inExample = false;
        for (String line : Files.readAllLines(Path.of("README.md"))) {
            if (line.startsWith("```")) {
                inExample = line.equals("```java");
            } else if (inExample) {
                test.carryOut(line);
            }
        }
        test.everyMethodIsTold();
        test.checks.end();
    }

    private void carryOut(String line) throws Exception {
        if (line.equals(NEW)) {
            x = new TokenFrames();
            return;
        }
        Matcher call = CALL.matcher(line);
        checks.isTrue("README.md: " + line + " is a call with its answer", call.matches());
        Method method = methodOf(call.group(1));
        Object answer = method.invoke(x, argumentsOf(method, call.group(2)));
        checks.same(line, String.valueOf(answer), String.valueOf(call.group(3)));
    }

    private static Method methodOf(String name) {
        return List.of(TokenFrames.class.getMethods()).stream()
                .filter(method -> method.getName().equals(name)).findFirst().orElseThrow();
    }

    private static Object[] argumentsOf(Method method, String told) {
        String[] parts = told.isEmpty() ? new String[0] : told.split(", ");
        Object[] arguments = new Object[parts.length];
        for (int i = 0; i < parts.length; i++) {
            long value = Long.decode(parts[i].replace("L", ""));
            arguments[i] = method.getParameterTypes()[i] == int.class ? (Object) (int) value : (Object) value;
        }
        return arguments;
    }

    private void everyMethodIsTold() throws Exception {
        String readme = Files.readString(Path.of("README.md"));
        for (Method method : TokenFrames.class.getDeclaredMethods()) {
            boolean isPublic = Modifier.isPublic(method.getModifiers());
            checks.isTrue(method.getName() + " is told in README.md",
                    !isPublic || readme.contains("`" + method.getName() + "("));
        }
    }
}
