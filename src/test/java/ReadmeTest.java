import java.lang.reflect.Field;
import java.lang.reflect.Method;
import java.lang.reflect.Modifier;
import java.nio.file.Files;
import java.nio.file.Path;
import java.util.regex.Matcher;
import java.util.regex.Pattern;

/** README.md: its lines of Java answer what they say, and it names the whole face. Run in the project's directory. */
public final class ReadmeTest {
    private static final Due DUE = new Due("ReadmeTest");
    private static final Pattern BLOCK = Pattern.compile("(?s)```java\n(.*?)```");
    private static final Pattern MAKING = Pattern.compile("LotPlanner planner = new LotPlanner\\(\\);.*");
    private static final Pattern CALL = Pattern.compile("planner\\.(\\w+)\\(([-0-9, ]*)\\); *// (-?[0-9]+)\\b.*");
    private static final Pattern FEEDING =
        Pattern.compile("for \\(char letter : \"([^\"]*)\"\\.toCharArray\\(\\)\\) planner\\.feed\\(letter\\);");

    public static void main(String[] args) throws Exception {
        String page = Files.readString(Path.of("README.md"));
        lines(page);
        face(page);
        DUE.end();
    }

    private static void lines(String page) throws Exception {
        Matcher block = BLOCK.matcher(page);
        DUE.due("a block of Java", block.find() ? 1 : 0, 1);
        LotPlanner planner = new LotPlanner();
        for (String line : block.group(1).split("\n")) {
            Matcher call = CALL.matcher(line);
            Matcher feeding = FEEDING.matcher(line);
            if (call.matches()) DUE.due(line, answer(planner, call.group(1), call.group(2)), Long.parseLong(call.group(3)));
            else if (feeding.matches()) feed(planner, feeding.group(1));
            else DUE.due("a line that this test can follow: " + line, MAKING.matcher(line).matches() ? 1 : 0, 1);
        }
    }

    private static void feed(LotPlanner planner, String text) {
        for (int i = 0; i < text.length(); i++) DUE.due("byte " + i + " of " + text, planner.feed(text.charAt(i)), i + 1);
    }

    private static long answer(LotPlanner planner, String name, String arguments) throws Exception {
        String[] numbers = arguments.isEmpty() ? new String[0] : arguments.split(", ");
        Object[] values = new Object[numbers.length];
        Class<?>[] kinds = new Class<?>[numbers.length];
        for (int i = 0; i < numbers.length; i++) {
            values[i] = Integer.valueOf(numbers[i]);
            kinds[i] = int.class;
        }
        return ((Number) LotPlanner.class.getMethod(name, kinds).invoke(planner, values)).longValue();
    }

    private static void face(String page) {
        for (Method method : LotPlanner.class.getDeclaredMethods()) {
            if (!Modifier.isPublic(method.getModifiers())) continue;
            int parameters = method.getParameterCount();
            String commas = parameters == 0 ? "" : "\\w+" + ", \\w+".repeat(parameters - 1);
            boolean named = Pattern.compile("`" + method.getName() + "\\(" + commas + "\\)`").matcher(page).find();
            DUE.due("README.md names " + method, named ? 1 : 0, 1);
        }
        for (Field field : LotPlanner.class.getFields()) {
            DUE.due("README.md names " + field, page.contains("`" + field.getName() + "`") ? 1 : 0, 1);
        }
    }
}
