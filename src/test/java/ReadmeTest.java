import java.lang.reflect.Method;
import java.nio.file.Files;
import java.nio.file.Path;
import java.util.HashMap;
import java.util.Map;
import java.util.regex.Matcher;
import java.util.regex.Pattern;

/** The calls that README.md shows answer as it says; run from the project's folder, as .ci/run does. */
public final class ReadmeTest {
    private static final Due D = new Due("ReadmeTest");
    private static final Pattern CALL = Pattern.compile("x\\.(\\w+)\\((.*)\\); +// (-?\\d+)(: .*)?");

    public static void main(String[] args) throws Exception {
        Map<String, Method> face = new HashMap<>();
        for (Method m : YawnKeys.class.getMethods()) {
            if (m.getDeclaringClass() == YawnKeys.class) {
                face.put(m.getName(), m);
            }
        }
        YawnKeys x = null;
        boolean inCode = false;
        int codes = 0;
        for (String line : Files.readAllLines(Path.of("README.md"))) {
            if (line.startsWith("```")) {
                inCode = line.equals("```java");
                codes += inCode ? 1 : 0;
            } else if (inCode && line.equals("YawnKeys x = new YawnKeys();")) {
                x = new YawnKeys();
            } else if (inCode) {
                call(face, x, line);
            }
        }
        D.due("pieces of code", codes, 3);
        D.end();
    }

    private static void call(Map<String, Method> face, YawnKeys x, String line) throws Exception {
        Matcher call = CALL.matcher(line);
        if (x == null || !call.matches() || !face.containsKey(call.group(1))) {
            D.due("a call and its answer: " + line, 0, 1);
            return;
        }
        Method m = face.get(call.group(1));
        String[] words = call.group(2).isEmpty() ? new String[0] : call.group(2).split(", ");
        if (words.length != m.getParameterCount()) {
            D.due("as many numbers as it takes: " + line, words.length, m.getParameterCount());
            return;
        }
        Object[] numbers = new Object[words.length];
        for (int i = 0; i < words.length; i++) {
            int number = words[i].startsWith("'") ? words[i].charAt(1) : Integer.parseInt(words[i]);
            if (m.getParameterTypes()[i] == long.class) {
                numbers[i] = (long) number;
            } else {
                numbers[i] = number;
            }
        }
        D.due(line, (Integer) m.invoke(x, numbers), Integer.parseInt(call.group(3)));
    }
}
