import java.lang.reflect.InvocationTargetException;
import java.lang.reflect.Method;
import java.lang.reflect.Modifier;
import java.util.ArrayList;
import java.util.Arrays;
import java.util.List;
import java.util.TreeMap;

/**
 * Each call with each argument at and beyond each bound, alone and with another one: on an empty object, one with
 * something in it, and a full one. What is due comes from the plain model; nothing may throw but what the document
 * names, and a refused call changes nothing.
 */
public final class EdgesTest {
    private static final int MIN = Integer.MIN_VALUE;
    private static final int MAX = Integer.MAX_VALUE;
    private static final int[] EDGES = {
        MIN, MIN + 1, -32769, -10001, -10000, -9999, -1801, -1800, -129, -10, -9, -2, -1, 0, 1, 2, 3, 4, 5, 6, 7, 8, 9, 10,
        11, 12, 13, 17, 18, 19, 20, 29, 30, 31, 32, 35, 36, 59, 60, 61, 79, 80, 81, 101, 127, 128, 600, 647, 648, 999, 1000,
        1001, 1799, 1800, 1801, 2399, 2400, 2401, 3599, 3600, 9999, 10000, 32768, 65536, 799999, 800000, 800001, MAX - 1, MAX,
    };
    /** A call of each name that is as told; what kind of object it is made on does not matter. */
    private static final int[][] USUAL = {
        {1700, 2, 28, 1}, {600000, 1, 1}, {3, 1700, 2, 3, 1}, {3, 9, 4, 1}, {1, 3, 100, 600000, 50, 2}, {0, 3}, {0},
        {7}, {1}, {1}, {0}, {1, 5}, {1, 0, 5}, {0}, {1, 40}, {3, 3}, {0, 2, -1}, {0, 9, 9}, {0, 0, 0}, {0}, {700000},
        {0, 1, 50}, {0, 1}, {5, 6, 600100}, {0}, {5}, {3}, {2, 3, 40}, {2, 3}, {0, 1}, {0}, {2}, {100, 90, 600000, 600200},
        {90, 100, 600000, 300, 600300}, {600000}, {0, 90, 600500, 1}, {0, 3, 20}, {9, 9, 70}, {100, 1}, {}, {}, {8},
        {4, 1, 0}, {4, 1, 6}, {3, 1, 90}, {3, 0}, {3, 0, 5, 1, 1}, {6}, {6},
    };
    private static final String[] NAMES = {
        "day", "date", "mayBe", "land", "reading", "about", "value", "edition", "fault", "rule", "strike", "force", "counts",
        "night", "set", "voyage", "leg", "sight", "closed", "shift", "epoch", "number", "told", "field", "misfit", "cost",
        "solve", "iron", "adjust", "rival", "peace", "judge", "turned", "left", "chart", "off", "late", "offer", "next",
        "image", "restore", "count", "keep", "row", "put", "element", "copy", "heft", "toss",
    };
    private static final TreeMap<String, Method> METHODS = new TreeMap<>();

    private static Object charts;
    private static Object model;
    private static int calls;
    private static int wrong;

    public static void main(String[] args) throws Exception {
        Due.is(NAMES.length, USUAL.length, "a usual call for each name");
        for (int things = 0; things <= 2; things++) {
            for (int i = 0; i < NAMES.length; i++) {
                alone(i, things);
                inPairs(i, things);
            }
        }
        Due.is(0, wrong, "answers that were not those of the model");
        Due.end("EdgesTest");
    }

    /** One argument after the other at each edge; the others as usual. */
    private static void alone(int call, int things) throws Exception {
        begin(things);
        for (int at = 0; at < USUAL[call].length; at++) {
            for (int edge : EDGES) {
                int[] args = USUAL[call].clone();
                args[at] = edge;
                try1(call, args, things);
            }
        }
        try1(call, USUAL[call], things);
    }

    /** Two arguments beyond their bounds at once: which refusal is ahead of the other. */
    private static void inPairs(int call, int things) throws Exception {
        begin(things);
        int[] beyond = {-1, 1000000};
        for (int at = 0; at < USUAL[call].length; at++) {
            for (int other = at + 1; other < USUAL[call].length; other++) {
                for (int edge : beyond) {
                    for (int second : beyond) {
                        int[] args = USUAL[call].clone();
                        args[at] = edge;
                        args[other] = second;
                        try1(call, args, things);
                    }
                }
            }
        }
    }

    private static void try1(int call, int[] args, int things) throws Exception {
        if (calls > 400) {
            begin(things);
        }
        same(NAMES[call], args);
        for (int what = 0; what <= 8 && things == 1; what++) {
            same("count", what);
        }
    }

    private static void begin(int things) throws Exception {
        charts = new NeedleCharts();
        model = new PlainModel();
        calls = 0;
        if (things > 0) {
            furnish();
        }
        if (things > 1) {
            fill();
        }
    }

    private static void furnish() throws Exception {
        same("edition", 5);
        same("land", 5, 9, 5, 1);
        for (int kind = 0; kind <= 5; kind++) {
            same("reading", kind, 2, 90, 600000 + kind, 60 * kind - 50, kind == 1 ? 3 : 0);
        }
        text(1, "g:w+n");
        same("rule", 1);
        numbers(2, 0, 1, 4);
        numbers(3, 1, 90, 91, 0);
        numbers(5, 1, 7, 8, 9);
        same("keep", 6, 1, 1);
        same("voyage", 5, 5);
        same("leg", 0, 3, 1);
        same("epoch", 599000);
        same("epoch", 600100);
        same("number", 0, 0, 40);
        same("number", 1, 2, -30);
        same("chart", 600000);
        same("offer", 4, 4, 50);
        same("iron", 2, 3, 25);
        same("image");
    }

    private static void fill() throws Exception {
        for (int i = 6; i < 80; i++) {
            same("reading", i % 6, i % 10, i % 8 == 0 ? 90 : 8 * i, 600000 + i % 3, 9 * i - 400, 0);
        }
        for (int i = 1; i < 20; i++) {
            same("rule", 1);
        }
        for (int i = 1; i < 30; i++) {
            same("leg", 0, 1, 0);
        }
        for (int i = 1; i < 8; i++) {
            same("voyage", 9, 9);
            same("epoch", 600100 + 100 * i);
            same("chart", 600000 + i);
            same("offer", 4 * i, 8, 10 * i);
        }
        same("edition", 60);
    }

    private static void text(int d, String text) throws Exception {
        int[] signs = new int[text.length()];
        for (int i = 0; i < signs.length; i++) {
            signs[i] = text.charAt(i);
        }
        numbers(d, 0, signs);
    }

    private static void numbers(int d, int sort, int... numbers) throws Exception {
        same("row", d, sort, numbers.length);
        for (int i = 0; i < numbers.length; i++) {
            same("put", d, i, numbers[i]);
        }
    }

    private static void same(String name, int... args) throws Exception {
        String got = answer(charts, name, args);
        String want = answer(model, name, args);
        calls++;
        if (!got.equals(want)) {
            wrong++;
            System.out.println(name + Arrays.toString(args) + " answered " + got + ", due is " + want);
        }
        boolean named = !got.startsWith("throws.") || got.equals("throws.IllegalArgumentException")
            || name.equals("element") && got.equals("throws.IllegalStateException");
        Due.isTrue(named, name + Arrays.toString(args) + " " + got);
    }

    private static String answer(Object on, String name, int[] args) throws Exception {
        Method m = METHODS.computeIfAbsent(on.getClass().getName() + " " + name, key -> method(on, name));
        List<Object> told = new ArrayList<>();
        for (int i = 0; i < args.length; i++) {
            boolean flag = m.getParameterTypes()[i] == boolean.class;
            told.add(flag ? (Object) (args[i] % 2 != 0) : (Object) args[i]);
        }
        try {
            return String.valueOf(m.invoke(on, told.toArray()));
        } catch (InvocationTargetException e) {
            return "throws." + e.getCause().getClass().getSimpleName();
        }
    }

    private static Method method(Object on, String name) {
        for (Method m : on.getClass().getDeclaredMethods()) {
            if (m.getName().equals(name) && Modifier.isPublic(m.getModifiers())) {
                return m;
            }
        }
        throw new IllegalStateException("no method " + name);
    }
}
