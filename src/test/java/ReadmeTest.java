import java.io.IOException;
import java.lang.reflect.InvocationTargetException;
import java.lang.reflect.Method;
import java.lang.reflect.Modifier;
import java.nio.file.Files;
import java.nio.file.Path;
import java.util.HashSet;
import java.util.Set;
import java.util.regex.Matcher;
import java.util.regex.Pattern;

/** The calls of README.md, made in their order on one object, answer what stands there behind them. */
public final class ReadmeTest {
    private static final Pattern CALL = Pattern.compile("vault\\.(\\w+)\\(([^)]*)\\); *// (throws \\w+|[^ :]+).*");

    private static int wrong = 0;

    private ReadmeTest() {
    }

    private static void fail(String what) {
        wrong++;
        System.out.println("README.md: " + what);
    }

    private static Method method(String name) {
        for (Method method : Trumpvault.class.getMethods()) {
            if (method.getName().equals(name)) {
                return method;
            }
        }
        throw new IllegalStateException("there is no call " + name);
    }

    private static Object[] numbers(String listed) {
        String[] parts = listed.split(", *");
        Object[] numbers = new Object[parts.length];
        for (int i = 0; i < parts.length; i++) {
            numbers[i] = Integer.valueOf(parts[i]);
        }
        return numbers;
    }

    private static String answer(Trumpvault vault, String name, String listed) throws IllegalAccessException {
        try {
            Object answer = method(name).invoke(vault, numbers(listed));
            return answer == null ? "nothing" : answer.toString();
        } catch (InvocationTargetException thrown) {
            return "throws " + thrown.getCause().getClass().getSimpleName();
        }
    }

    private static void lookForEach(Set<String> called) {
        for (Method method : Trumpvault.class.getDeclaredMethods()) {
            if (Modifier.isPublic(method.getModifiers()) && !called.contains(method.getName())) {
                fail("the call " + method.getName() + " is not told");
            }
        }
    }

    public static void main(String[] args) throws IOException, IllegalAccessException {
        Trumpvault vault = new Trumpvault();
        Set<String> called = new HashSet<>();
        for (String line : Files.readAllLines(Path.of("README.md"))) {
            Matcher found = CALL.matcher(line);
            if (found.matches()) {
                String got = answer(vault, found.group(1), found.group(2));
                if (!got.equals(found.group(3))) {
                    fail(line + " answered " + got);
                }
                called.add(found.group(1));
            } else if (line.startsWith("vault.")) {
                fail("no answer stands behind " + line);
            }
        }
        lookForEach(called);
        System.out.println(wrong == 0 ? "README.md tells what is" : wrong + " lines of README.md are wrong");
        if (wrong > 0) {
            System.exit(1);
        }
    }
}
