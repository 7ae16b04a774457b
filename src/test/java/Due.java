/** What the tests share: answers that are due, told when they are not what came. */
final class Due {
    private static int checks = 0;
    private static int wrong = 0;
    private static String sentence = "";

    private Due() {
    }

    /** A call that may throw. */
    interface Call {
        long answer() throws Exception;
    }

    /** The words of the document that the checks from here on are about; they are told with what is wrong. */
    static void says(String words) {
        sentence = " (" + words + ")";
    }

    private static void tell(String fault) {
        wrong++;
        System.out.println(fault + sentence);
    }

    static void is(long want, long got, String call) {
        checks++;
        if (want != got) {
            tell(call + " answered " + got + ", due is " + want);
        }
    }

    static void isTrue(boolean holds, String what) {
        checks++;
        if (!holds) {
            tell("not so: " + what);
        }
    }

    /** The very class of exception is due, not one below it. */
    static void fails(Class<? extends Exception> want, Call call, String name) {
        checks++;
        try {
            long got = call.answer();
            tell(name + " answered " + got + ", due is " + want.getName());
        } catch (Exception e) {
            if (e.getClass() != want) {
                tell(name + " threw " + e + ", due is " + want.getName());
            }
        }
    }

    static void illegal(Call call, String name) {
        fails(IllegalArgumentException.class, call, name);
    }

    static void illegalState(Call call, String name) {
        fails(IllegalStateException.class, call, name);
    }

    /** A text as a ROW of bytes in a SHELF. */
    static void text(NeedleCharts x, int d, String text) {
        is(0, x.row(d, 0, text.length()), "row for " + text);
        for (int i = 0; i < text.length(); i++) {
            is(0, x.put(d, i, text.charAt(i)), "put for " + text);
        }
    }

    /** Numbers as a ROW of a SORT in a SHELF. */
    static void numbers(NeedleCharts x, int d, int sort, int... numbers) {
        is(0, x.row(d, sort, numbers.length), "row of numbers");
        for (int i = 0; i < numbers.length; i++) {
            is(0, x.put(d, i, numbers[i]), "put of numbers");
        }
    }

    /** The text becomes a RULE: its number. */
    static int rule(NeedleCharts x, String text) {
        text(x, 7, text);
        int n = x.rule(7);
        isTrue(n >= 0, "a rule: " + text);
        return n;
    }

    static void end(String test) {
        System.out.println(test + ": " + checks + " checks, " + wrong + " wrong");
        if (wrong != 0) {
            System.exit(1);
        }
    }
}
