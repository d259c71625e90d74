import java.io.IOException;
import java.lang.reflect.InvocationTargetException;
import java.lang.reflect.Method;
import java.lang.reflect.Modifier;
import java.nio.file.Files;
import java.nio.file.Path;
import java.util.regex.Matcher;
import java.util.regex.Pattern;

/** README.md says how to use the class: its calls, one behind the other, answer what stands behind them. */
public final class ReadmeTest {
    private static final Pattern BLOCK = Pattern.compile("(?s)```java\n(.*?)```");
    private static final Pattern CALL = Pattern.compile("all\\.(\\w+)\\((.*?)\\);\\s*// (\\w+Exception|-?\\d+)(:.*)?");
    private static final Pattern TYPING = Pattern.compile(
        "for \\(char c : \"(\\w+)\"\\.toCharArray\\(\\)\\) all\\.append\\(c\\);");
    private static final String NEW = "ForgivenWork all = new ForgivenWork();";
    private static final int FEWEST_CALLS = 27;

    private static ForgivenWork all;
    private static int called = 0;
    private static int wrong = 0;

    public static void main(String[] args) throws IOException, IllegalAccessException {
        String page = Files.readString(Path.of("README.md"));
        for (String block : BLOCK.matcher(page).results().map(found -> found.group(1)).toList()) {
            for (String line : block.split("\n")) {
                hold(line);
            }
        }
        check(called >= FEWEST_CALLS, "only " + called + " calls were found");
        for (Method method : ForgivenWork.class.getDeclaredMethods()) {
            boolean isNamed = page.contains("all." + method.getName() + "(") && page.contains("`" + method.getName() + "`");
            check(Modifier.isPrivate(method.getModifiers()) || isNamed, method.getName() + " is not shown and named");
        }
        System.out.println("ReadmeTest: " + called + " calls, " + wrong + " wrong");
        if (wrong != 0) {
            System.exit(1);
        }
    }

    private static void check(boolean holds, String what) {
        if (!holds) {
            wrong++;
            System.out.println("ReadmeTest: " + what);
        }
    }

    private static void hold(String line) throws IllegalAccessException {
        Matcher call = CALL.matcher(line);
        Matcher typing = TYPING.matcher(line);
        if (line.equals(NEW)) {
            all = new ForgivenWork();
        } else if (typing.matches()) {
            for (char c : typing.group(1).toCharArray()) {
                all.append(c);
            }
        } else if (call.matches()) {
            called++;
            String got = answer(call.group(1), call.group(2));
            check(got.equals(call.group(3)), line + " answered " + got);
        } else {
            check(false, "what is this: " + line);
        }
    }

    private static String answer(String name, String arguments) throws IllegalAccessException {
        String[] words = arguments.isEmpty() ? new String[0] : arguments.split(", ");
        for (Method method : ForgivenWork.class.getDeclaredMethods()) {
            if (method.getName().equals(name) && method.getParameterCount() == words.length) {
                try {
                    return String.valueOf(method.invoke(all, numbers(method.getParameterTypes(), words)));
                } catch (InvocationTargetException e) {
                    return e.getCause().getClass().getSimpleName();
                }
            }
        }
        return "there is no such method";
    }

    private static Object[] numbers(Class<?>[] types, String[] words) {
        Object[] numbers = new Object[words.length];
        for (int k = 0; k < words.length; k++) {
            String word = words[k].replace("L", "");
            long number = word.startsWith("'") ? word.charAt(1) : Long.parseLong(word);
            if (types[k] == long.class) {
                numbers[k] = number;
            } else {
                numbers[k] = (int) number;
            }
        }
        return numbers;
    }
}
