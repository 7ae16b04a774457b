import java.lang.reflect.InvocationTargetException;
import java.lang.reflect.Method;
import java.lang.reflect.Modifier;
import java.nio.file.Files;
import java.nio.file.Path;
import java.util.ArrayList;
import java.util.List;
import java.util.Map;
import java.util.TreeMap;
import java.util.TreeSet;
import java.util.regex.Matcher;
import java.util.regex.Pattern;

/** What README.md says that its lines answer is what they answer, and each call of the face is among them. */
public final class ReadmeTest {
    private static final Pattern CALL = Pattern.compile("charts\\.(\\w+)\\((.*)\\); +// ([-\\w]+)(:.*)?");
    private static final Pattern TEXT = Pattern.compile("text\\(charts, (\\d), \"(.*)\"\\);");
    private static final String MADE = "NeedleCharts charts = new NeedleCharts();";

    public static void main(String[] args) throws Exception {
        Map<String, Method> face = face();
        TreeSet<String> shown = new TreeSet<>();
        NeedleCharts charts = new NeedleCharts();
        int calls = 0;
        for (String line : examples(Files.readAllLines(Path.of("README.md")))) {
            Matcher call = CALL.matcher(line);
            Matcher text = TEXT.matcher(line);
            if (text.matches()) {
                Due.text(charts, Integer.parseInt(text.group(1)), text.group(2));
                calls += 1 + text.group(2).length();
            } else if (call.matches() && face.containsKey(call.group(1))) {
                String answer = answer(charts, face.get(call.group(1)), call.group(2));
                Due.isTrue(answer.equals(call.group(3)), line + " (it answered " + answer + ")");
                shown.add(call.group(1));
                calls++;
            } else {
                Due.isTrue(line.equals(MADE), "a line of README.md that can be run: " + line);
            }
        }
        TreeSet<String> missing = new TreeSet<>(face.keySet());
        missing.removeAll(shown);
        Due.isTrue(missing.isEmpty(), "README.md shows every call, but not " + missing);
        Due.isTrue(calls <= 512, "README.md keeps to 512 calls of an object, not " + calls);
        Due.end("ReadmeTest");
    }

    private static Map<String, Method> face() {
        Map<String, Method> face = new TreeMap<>();
        for (Method m : NeedleCharts.class.getDeclaredMethods()) {
            if (Modifier.isPublic(m.getModifiers())) {
                face.put(m.getName(), m);
            }
        }
        return face;
    }

    /** The lines of the Java blocks, but for blocks that declare something. */
    private static List<String> examples(List<String> page) {
        List<String> lines = new ArrayList<>();
        boolean inBlock = false;
        boolean declares = false;
        for (String line : page) {
            if (line.startsWith("```")) {
                inBlock = line.equals("```java");
                declares = false;
            } else if (inBlock) {
                declares |= line.startsWith("static ");
                if (!declares) {
                    lines.add(line);
                }
            }
        }
        return lines;
    }

    private static String answer(NeedleCharts charts, Method m, String words) throws IllegalAccessException {
        String[] told = words.isEmpty() ? new String[0] : words.split(", ");
        Class<?>[] kinds = m.getParameterTypes();
        if (told.length != kinds.length) {
            return "nothing: " + kinds.length + " arguments are due";
        }
        Object[] arguments = new Object[told.length];
        for (int i = 0; i < told.length; i++) {
            boolean isFlag = kinds[i] == boolean.class;
            arguments[i] = isFlag ? (Object) Boolean.valueOf(told[i]) : (Object) Integer.valueOf(told[i]);
        }
        try {
            return String.valueOf(m.invoke(charts, arguments));
        } catch (InvocationTargetException e) {
            return e.getCause().getClass().getSimpleName();
        }
    }
}
