import java.lang.reflect.Method;
import java.lang.reflect.Modifier;
import java.nio.charset.StandardCharsets;
import java.nio.file.Files;
import java.nio.file.Path;
import java.util.regex.Matcher;
import java.util.regex.Pattern;

/** README.md: its example answers as it says, and it tells each call of the face. */
public final class ReadmeTest extends TestKit {
    private static final Pattern TEXT = Pattern.compile("for \\(char letter : \"([^\"]*)\"");
    private static final Pattern CALL = Pattern.compile("town\\.(\\w+)\\(([-0-9, ]*)\\);\\s+// (-?\\d+|[A-Z]+)\\b.*");

    private static int answer(RainBallot x, String name, String told) throws ReflectiveOperationException {
        String[] numbers = told.isBlank() ? new String[0] : told.split(",");
        Object[] arguments = new Object[numbers.length];
        Class<?>[] types = new Class<?>[numbers.length];
        for (int i = 0; i < numbers.length; i++) {
            arguments[i] = Integer.parseInt(numbers[i].trim());
            types[i] = int.class;
        }
        return (int) RainBallot.class.getMethod(name, types).invoke(x, arguments);
    }

    private static int number(String word) throws ReflectiveOperationException {
        return Character.isLetter(word.charAt(0)) ? RainBallot.class.getField(word).getInt(null) : Integer.parseInt(word);
    }

    private static void example(String readme) throws ReflectiveOperationException {
        String code = readme.substring(readme.indexOf("```java") + 7);
        code = code.substring(0, code.indexOf("```"));
        Matcher text = TEXT.matcher(code);
        due("the example tells a text", text.find() ? 1 : 0, 1);
        RainBallot town = new RainBallot();
        write(town, text.group(1));
        int calls = 0;
        for (String line : code.substring(code.indexOf("}\n") + 2).split("\n")) {
            Matcher call = CALL.matcher(line);
            boolean sound = call.matches();
            due("a call with its answer: " + line, sound ? 1 : 0, 1);
            if (sound) due(line, answer(town, call.group(1), call.group(2)), number(call.group(3)));
            calls++;
        }
        due("the example has calls", calls > 0 ? 1 : 0, 1);
    }

    private static void face(String readme) {
        for (Method m : RainBallot.class.getDeclaredMethods()) {
            if (!Modifier.isPublic(m.getModifiers())) continue;
            Matcher told = Pattern.compile("`" + m.getName() + "\\(([^)]*)\\)`").matcher(readme);
            boolean found = told.find();
            due("it tells " + m.getName(), found ? 1 : 0, 1);
            if (!found) continue;
            String names = told.group(1);
            due("numbers of " + m.getName(), names.isEmpty() ? 0 : names.split(",").length, m.getParameterCount());
        }
    }

    public static void main(String[] args) throws Exception {
        String readme = Files.readString(Path.of("README.md"), StandardCharsets.UTF_8);
        example(readme);
        face(readme);
        System.out.println(asked + " answers of README.md, " + wrong + " are not as due");
        if (wrong != 0) System.exit(1);
    }
}
