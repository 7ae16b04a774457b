import java.lang.reflect.InvocationTargetException;
import java.lang.reflect.Method;
import java.util.ArrayList;
import java.util.Arrays;
import java.util.HashMap;
import java.util.List;
import java.util.Map;
import java.util.Random;

/** Many runs of calls, the same ones on the class and on the plain model: each answer must be one and the same. */
public final class RandomRunsTest {
    private static final int CALLS = 512;
    /** Name, how often, and a range (or a sort of number) for each argument. */
    private static final String[] CALLS_TOLD = {
        "day 2 year 0:13 dom bool", "date 2 anyday bool 0:2", "mayBe 3 0:3 year 0:13 dom -1:3",
        "land 6 0:35 0:35 0:17 bool", "reading 60 kind source place day value told", "about 4 which 0:5", "value 2 which",
        "edition 3 edition", "fault 4 shelf", "rule 12 shelf", "strike 2 0:5", "force 3 0:2 edition",
        "counts 12 which 0:1 edition", "night 6 which", "set 4 0:2 setting", "voyage 3 0:35 0:17",
        "leg 16 0:3 -3:3 -3:3", "sight 5 0:3 0:35 0:17", "closed 12 0:3 -1:20 0:1", "shift 4 0:3", "epoch 3 day",
        "number 10 0:3 0:3 coefficient", "told 4 0:3 0:3", "field 4 0:35 0:17 day", "misfit 5 which",
        "cost 5 edition", "solve 3 1:7", "iron 3 source heading -300:300", "adjust 3 source heading", "rival 12 which which",
        "peace 6 -1:6", "judge 4 shelf", "turned 4 0:3599 place day day", "left 4 place 0:3599 day 0:3599 day",
        "chart 2 day", "off 5 0:3 place day bool", "late 4 0:3 shelf 0:300", "offer 3 0:35 0:17 1:999",
        "next 3 0:3000 0:2", "image 1", "restore 1", "count 5 0:8", "keep 8 0:7 0:1 which", "row 5 shelf 0:2 0:20",
        "put 14 shelf 0:20 element", "element 6 shelf 0:20", "copy 6 shelf 0:12 shelf 0:12 0:12", "heft 5 0:7",
        "toss 5 0:7",
    };
    private static final int[] EDGES = {
        -1, -2, 0, 1, Integer.MIN_VALUE, Integer.MAX_VALUE, 648, 800000, 800001, 80, 81, 1800, -1801, 10000, -10000, 60,
        61, 3600, 36, 18, 8, 9, 1000, 2400, 2401, 1799,
    };

    private final Random random;
    private final NeedleCharts charts = new NeedleCharts();
    private final PlainModel model = new PlainModel();
    private final StringBuilder story = new StringBuilder();
    private final int[] places = new int[4];
    private final int[] days = new int[6];
    private final int spread;
    private final int edgesIn;
    private final int favourite;
    private final int sources;
    private final int headings;
    private int calls;
    private static final Map<String, Integer> SEEN = new HashMap<>();

    private RandomRunsTest(long seed) {
        random = new Random(seed);
        int corner = random.nextInt(34) * 18 + random.nextInt(16);
        for (int i = 0; i < places.length; i++) {
            places[i] = corner + 18 * random.nextInt(3) + random.nextInt(3);
        }
        for (int i = 0; i < days.length; i++) {
            days[i] = 600000 + random.nextInt(800);
        }
        days[0] = random.nextInt(800001);
        spread = new int[] {20, 100, 400, 1800}[random.nextInt(4)];
        edgesIn = new int[] {8, 40, 400}[random.nextInt(3)];
        favourite = random.nextInt(6);
        sources = new int[] {1, 3, 10}[random.nextInt(3)];
        headings = new int[] {1, 3, 8}[random.nextInt(3)];
    }

    public static void main(String[] args) throws Exception {
        int runs = args.length > 0 ? Integer.parseInt(args[0]) : 1500;
        long first = args.length > 1 ? Long.parseLong(args[1]) : 1;
        int alike = 0;
        for (long seed = first; seed < first + runs; seed++) {
            alike += new RandomRunsTest(seed).run(seed) ? 1 : 0;
        }
        Due.is(runs, alike, "runs that are alike");
        for (String told : CALLS_TOLD) {
            String name = told.split(" ")[0];
            Due.isTrue(runs < 100 || SEEN.getOrDefault(name, 0) > 20, name + " was not only refused");
        }
        for (String name : new String[] {"rival", "night", "peace", "judge", "late", "counts", "off", "copy", "toss"}) {
            Due.isTrue(runs < 100 || SEEN.getOrDefault(name + " is above 0", 0) > 20, name + " was above 0, too");
        }
        if (args.length > 0) {
            System.out.println(SEEN);
        }
        Due.end("RandomRunsTest");
    }

    private boolean run(long seed) throws Exception {
        List<String[]> lots = new ArrayList<>();
        for (String told : CALLS_TOLD) {
            String[] parts = told.split(" ");
            int often = Integer.parseInt(parts[1]);
            // each run has its own leanings, so that calls meet in many proportions
            often = often * new int[] {0, 1, 1, 2, 4}[random.nextInt(5)];
            for (int i = 0; i < often; i++) {
                lots.add(parts);
            }
        }
        while (calls < CALLS) {
            boolean alike = random.nextInt(20) == 0 ? tellRow() : call(lots.get(random.nextInt(lots.size())));
            if (!alike) {
                System.out.println("seed " + seed + "\n" + story);
                return false;
            }
        }
        return true;
    }

    private boolean call(String[] parts) throws Exception {
        Object[] args = new Object[parts.length - 2];
        for (int i = 0; i < args.length; i++) {
            args[i] = parts[i + 2].equals("bool") ? (Object) random.nextBoolean() : (Object) argument(parts[i + 2], args);
        }
        return same(parts[0], args);
    }

    private int argument(String sort, Object[] args) {
        if (random.nextInt(edgesIn) == 0) {
            return EDGES[random.nextInt(EDGES.length)];
        }
        switch (sort) {
            case "year": return year();
            case "dom": return 1 + random.nextInt(random.nextInt(4) == 0 ? 32 : 28);
            case "anyday": return random.nextInt(800001);
            case "place": return random.nextInt(8) == 0 ? random.nextInt(648) : places[random.nextInt(4)];
            case "day": return random.nextInt(4) == 0 ? 599000 + random.nextInt(3000) : days[random.nextInt(6)];
            case "value": return random.nextInt(2 * spread) - spread;
            case "kind": return random.nextInt(3) == 0 ? favourite : random.nextInt(6);
            case "source": return random.nextInt(sources);
            case "heading": return random.nextInt(headings);
            case "told": return Integer.valueOf(1).equals(args[0]) ? random.nextInt(headings) : 0;
            case "which": return random.nextInt(Math.max(1, model.count(0)) + (random.nextInt(9) == 0 ? 3 : 0));
            case "edition": return model.count(6) + random.nextInt(5) - (random.nextBoolean() ? 0 : 3);
            case "setting": return random.nextInt(4) == 0 ? random.nextInt(1001) : random.nextInt(60);
            case "coefficient": return random.nextInt(8) == 0 ? random.nextInt(19999) - 9999 : random.nextInt(401) - 200;
            case "element": return random.nextInt(3) == 0 ? random.nextInt() : random.nextInt(90);
            case "shelf": return random.nextInt(4);
            default: return range(sort);
        }
    }

    /** Now and then about the first year or the last one, where a year more or less makes the difference. */
    private int year() {
        switch (random.nextInt(6)) {
            case 0: return random.nextInt(4) - 1;
            case 1: return 2398 + random.nextInt(5);
            case 2: return 1700 + random.nextInt(5);
            default: return random.nextInt(2402);
        }
    }

    private int range(String sort) {
        String[] ends = sort.split(":");
        int least = Integer.parseInt(ends[0]);
        return least + random.nextInt(Integer.parseInt(ends[1]) - least + 1);
    }

    private boolean tellRow() throws Exception {
        switch (random.nextInt(4)) {
            case 0: return tellNumbers(1, "place") && same("late", new Object[] {random.nextInt(3), 0, random.nextInt(150)});
            case 1: return tellNumbers(0, "which") && same("judge", new Object[] {0});
            default: return tellText();
        }
    }

    private boolean tellNumbers(int sort, String what) throws Exception {
        int n = random.nextInt(8);
        boolean alike = same("row", new Object[] {0, sort, n});
        for (int i = 0; alike && i < n; i++) {
            alike = same("put", new Object[] {0, i, argument(what, new Object[0])});
        }
        return alike;
    }

    /** A text of a RULE, now and then with a wrong byte, comes to a SHELF and is told. */
    private boolean tellText() throws Exception {
        StringBuilder text = new StringBuilder().append("kgp".charAt(random.nextInt(3))).append(':');
        expr(text, random.nextInt(5));
        if (random.nextInt(3) == 0) {
            String signs = "kgp:?()+-*/0123456789wqnvz ";
            text.setCharAt(random.nextInt(text.length()), signs.charAt(random.nextInt(signs.length())));
        }
        if (random.nextInt(8) == 0) {
            text.setLength(random.nextInt(text.length() + 1));
        }
        int n = Math.min(80, text.length());
        int shelf = random.nextInt(4);
        boolean alike = same("row", new Object[] {shelf, 0, n});
        for (int i = 0; alike && i < n; i++) {
            alike = same("put", new Object[] {shelf, i, (int) text.charAt(i)});
        }
        return alike && same("fault", new Object[] {shelf}) && same("rule", new Object[] {shelf});
    }

    private void expr(StringBuilder s, int size) {
        sum(s, size);
        if (size > 1 && random.nextInt(3) == 0) {
            s.append('?');
            expr(s, size - 1);
            s.append(':');
            expr(s, size - 1);
        }
    }

    private void sum(StringBuilder s, int size) {
        product(s, size);
        for (int i = random.nextInt(2 + size / 2); i > 0; i--) {
            s.append("+-".charAt(random.nextInt(2)));
            product(s, size - 1);
        }
    }

    private void product(StringBuilder s, int size) {
        atom(s, size);
        for (int i = random.nextInt(2); i > 0; i--) {
            s.append("*/".charAt(random.nextInt(2)));
            atom(s, size - 1);
        }
    }

    private void atom(StringBuilder s, int size) {
        switch (size > 0 ? random.nextInt(4) : random.nextInt(3)) {
            case 0: s.append(random.nextInt(random.nextInt(3) == 0 ? 10000 : 10)); break;
            case 3: s.append('('); expr(s, size - 1); s.append(')'); break;
            default: s.append("ksdxyvhwqn".charAt(random.nextInt(10))); break;
        }
    }

    private boolean same(String name, Object[] args) throws Exception {
        if (calls >= CALLS) {
            // what later calls answer is free
            return true;
        }
        String got = answer(charts, name, args);
        String want = answer(model, name, args);
        calls++;
        story.append(name).append(Arrays.toString(args)).append(" = ").append(got).append('\n');
        if (!want.startsWith("-") && !want.startsWith("throws")) {
            SEEN.merge(name, 1, Integer::sum);
            SEEN.merge(name + (want.equals("0") ? " is 0" : " is above 0"), 1, Integer::sum);
        }
        if (!got.equals(want)) {
            story.append("due is ").append(want).append('\n');
        }
        return got.equals(want);
    }

    private static final Map<String, Method> METHODS = new HashMap<>();

    private static String answer(Object on, String name, Object[] args) throws Exception {
        Method m = METHODS.get(on.getClass().getName() + name);
        if (m == null) {
            for (Method some : on.getClass().getDeclaredMethods()) {
                if (some.getName().equals(name) && java.lang.reflect.Modifier.isPublic(some.getModifiers())) {
                    m = some;
                }
            }
            METHODS.put(on.getClass().getName() + name, m);
        }
        try {
            return String.valueOf(m.invoke(on, args));
        } catch (InvocationTargetException e) {
            return "throws." + e.getCause().getClass().getSimpleName();
        }
    }
}
