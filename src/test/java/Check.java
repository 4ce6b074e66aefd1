/** What the project's tests share: a tally of wrong answers, and the exception that a call throws. */
final class Check {
    interface Call {
        long run();
    }

    private static int wrong = 0;
    private static int asked = 0;

    private Check() {
    }

    static void due(String call, long want, long got) {
        asked++;
        if (got != want) {
            wrong++;
            System.out.println(call + " answered " + got + ", due is " + want);
        }
    }

    static void due(String call, boolean want, boolean got) {
        due(call, want ? 1 : 0, got ? 1 : 0);
    }

    static void due(String call, String want, String got) {
        asked++;
        if (!want.equals(got)) {
            wrong++;
            System.out.println(call + " answered " + got + ", due is " + want);
        }
    }

    static void index(String call, Call c) {
        due(call, "throws.IndexOutOfBoundsException", answer(c));
    }

    static void argument(String call, Call c) {
        due(call, "throws.IllegalArgumentException", answer(c));
    }

    static void unsupported(String call, Call c) {
        due(call, "throws.UnsupportedOperationException", answer(c));
    }

    /** The exact class counts: the machine's ArrayIndexOutOfBoundsException is not the document's. */
    static String answer(Call c) {
        try {
            return Long.toString(c.run());
        } catch (RuntimeException e) {
            return "throws." + e.getClass().getSimpleName();
        }
    }

    static void row(String when, SortBench x, int... numbers) {
        due(when + ": count(0)", numbers.length, x.count(0));
        for (int i = 0; i < numbers.length && i < x.count(0); i++) {
            due(when + ": get(" + i + ")", numbers[i], x.get(i));
        }
    }

    static void tags(String when, SortBench x, int... tags) {
        due(when + ": count(0)", tags.length, x.count(0));
        for (int i = 0; i < tags.length && i < x.count(0); i++) {
            due(when + ": tag(" + i + ")", tags[i], x.tag(i));
        }
    }

    static SortBench of(int... numbers) {
        SortBench x = new SortBench();
        for (int v : numbers) {
            x.put(v);
        }
        return x;
    }

    static void end(String test) {
        System.out.println(test + ": " + asked + " answers, " + wrong + " not as due");
        if (wrong != 0 || asked == 0) {
            System.exit(1);
        }
    }
}
