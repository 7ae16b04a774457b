import java.lang.reflect.Field;
import java.lang.reflect.Method;
import java.lang.reflect.Modifier;
import java.nio.file.Files;
import java.nio.file.Path;
import java.util.ArrayList;
import java.util.Arrays;
import java.util.List;
import java.util.TreeSet;

/** The public face is the document's, no more and no less, and the text keeps out of what LANGUAGE.md forbids. */
public final class FaceTest {
    private static final String[] FACE = {
        "int day(int, int, int, boolean)", "int date(int, boolean, int)", "int mayBe(int, int, int, int, int)",
        "int land(int, int, int, boolean)", "int reading(int, int, int, int, int, int)", "int about(int, int)",
        "long value(int) IllegalArgumentException", "int edition(int)", "int fault(int)", "int rule(int)",
        "int strike(int)", "int force(int, int)", "int counts(int, int, int)", "int night(int)", "int set(int, int)",
        "int voyage(int, int)", "int leg(int, int, int)", "int sight(int, int, int)", "int closed(int, int, int)",
        "int shift(int)", "int epoch(int)", "int number(int, int, int)",
        "long told(int, int) IllegalArgumentException", "long field(int, int, int) IllegalArgumentException",
        "long misfit(int) IllegalArgumentException", "long cost(int)", "int solve(int)", "int iron(int, int, int)",
        "long adjust(int, int) IllegalArgumentException", "int rival(int, int)", "int peace(int)", "int judge(int)",
        "int turned(int, int, int, int)", "int left(int, int, int, int, int)", "int chart(int)",
        "long off(int, int, int, boolean) IllegalArgumentException", "int late(int, int, int)",
        "int offer(int, int, int)", "int next(int, int)", "int image()", "int restore()", "int count(int)",
        "int keep(int, int, int)", "int row(int, int, int)", "int put(int, int, int)",
        "long element(int, int) IllegalArgumentException IllegalStateException", "int copy(int, int, int, int, int)",
        "int heft(int)", "int toss(int)",
    };

    public static void main(String[] args) throws Exception {
        theFaceIsTheDocuments();
        classesInsideAreStaticAndFew();
        staticStateIsConstant();
        theTextKeepsToTheLanguage();
        Due.end("FaceTest");
    }

    private static void theFaceIsTheDocuments() {
        TreeSet<String> want = new TreeSet<>(Arrays.asList(FACE));
        TreeSet<String> got = new TreeSet<>();
        TreeSet<String> names = new TreeSet<>();
        for (Method m : NeedleCharts.class.getDeclaredMethods()) {
            if (Modifier.isPublic(m.getModifiers())) {
                Due.isTrue(!Modifier.isStatic(m.getModifiers()), m + " is no static method");
                got.add(face(m));
                names.add(m.getName());
            }
        }
        Due.isTrue(got.equals(want), "the face is " + want + " and not " + got);
        for (Method m : NeedleCharts.class.getDeclaredMethods()) {
            boolean open = Modifier.isPublic(m.getModifiers());
            Due.isTrue(open || Modifier.isPrivate(m.getModifiers()), m + " is public or private");
            Due.isTrue(open || !names.contains(m.getName()), m + " has a name of its own");
        }
        Due.is(1, NeedleCharts.class.getDeclaredConstructors().length, "constructors");
        Due.is(1, NeedleCharts.class.getConstructors().length, "public constructors");
        Due.isTrue(Modifier.isFinal(NeedleCharts.class.getModifiers()), "the class is final");
    }

    private static String face(Method m) {
        List<String> parts = new ArrayList<>();
        for (Class<?> c : m.getParameterTypes()) {
            parts.add(c.getName());
        }
        StringBuilder s = new StringBuilder(m.getReturnType() + " " + m.getName() + "(" + String.join(", ", parts) + ")");
        for (Class<?> c : m.getExceptionTypes()) {
            s.append(' ').append(c.getSimpleName());
        }
        return s.toString();
    }

    private static void classesInsideAreStaticAndFew() {
        Class<?>[] inside = NeedleCharts.class.getDeclaredClasses();
        Due.isTrue(inside.length <= 12, "some twelve classes at most");
        for (Class<?> c : inside) {
            Due.isTrue(Modifier.isStatic(c.getModifiers()), c + " is static");
            Due.isTrue(Modifier.isPrivate(c.getModifiers()), c + " is private");
            Due.isTrue(instanceFields(c) <= 20, c + " has some twenty fields at most");
        }
        Due.isTrue(instanceFields(NeedleCharts.class) <= 20, "some twenty fields at most");
    }

    private static int instanceFields(Class<?> c) {
        int n = 0;
        for (Field f : c.getDeclaredFields()) {
            n += Modifier.isStatic(f.getModifiers()) ? 0 : 1;
        }
        return n;
    }

    private static void staticStateIsConstant() {
        for (Field f : NeedleCharts.class.getDeclaredFields()) {
            Due.isTrue(Modifier.isPrivate(f.getModifiers()), f + " is private");
            Due.isTrue(!Modifier.isStatic(f.getModifiers()) || Modifier.isFinal(f.getModifiers()), f + " is constant");
        }
    }

    private static void theTextKeepsToTheLanguage() throws Exception {
        String text = Files.readString(Path.of("src/main/java/NeedleCharts.java"));
        String[] forbidden = {
            "import ", "->", "::", "finally", "synchronized", "assert ", "Exact(", "ArrayIndexOutOfBounds", "NullPointer",
            "ClassCast", "NegativeArraySize", "ArrayStore", "catch (RuntimeException", "catch (Exception",
            "catch (Throwable", "catch (ArithmeticException", "catch (IndexOutOfBounds", "hashCode", "equals(Object",
            "toString()", "System.out", "Random", "currentTime", "nanoTime", "Thread", "String.format", " var ",
        };
        for (String word : forbidden) {
            Due.isTrue(!text.contains(word), "the text has no '" + word + "'");
        }
        for (int i = 0; i < text.length(); i++) {
            Due.isTrue(text.charAt(i) < 128, "a sign of 7 bits at " + i);
        }
        longMethods(text);
    }

    /** Methods stand 4 or 8 places in; each ends with a brace that stands as far in as its head. */
    private static void longMethods(String text) {
        String[] lines = text.split("\n");
        for (int i = 0; i < lines.length; i++) {
            Due.isTrue(lines[i].length() <= 120, "line " + (i + 1) + " is no longer than 120");
            if (!lines[i].matches(" {4}( {4})?\\S.*\\) (throws .*)?\\{") || lines[i].matches(" +(if|for|while|switch|}).*")) {
                continue;
            }
            String end = lines[i].replaceAll("\\S.*", "}");
            int k = i;
            while (k < lines.length && !lines[k].equals(end)) {
                k++;
            }
            Due.isTrue(k - i <= 60, "the method in line " + (i + 1) + " is short");
        }
    }
}
