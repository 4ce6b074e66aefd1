/** What the project's tests share: a tally of wrong answers, and the exception that a call throws. */
final class Check {
    interface Call {
        long run();
    }

    /** Makes an object anew, by the same calls each time. */
    interface Maker {
        SortBench make();
    }

    interface CallOn {
        long run(SortBench x);
    }

    private static int wrong = 0;
    private static int asked = 0;

    private Check() {
    }

    static void due(String call, long want, long got) {
        asked++;
        if (got != want) {
            wrong++;
            System.out.println(call + " answered " + got + ", due is " + want);
        }
    }

    static void due(String call, boolean want, boolean got) {
        due(call, want ? 1 : 0, got ? 1 : 0);
    }

    static void due(String call, String want, String got) {
        asked++;
        if (!want.equals(got)) {
            wrong++;
            System.out.println(call + " answered " + got + ", due is " + want);
        }
    }

    static void index(String call, Call c) {
        due(call, "throws.IndexOutOfBoundsException", answer(c));
    }

    static void argument(String call, Call c) {
        due(call, "throws.IllegalArgumentException", answer(c));
    }

    static void unsupported(String call, Call c) {
        due(call, "throws.UnsupportedOperationException", answer(c));
    }

    /** The exact class counts: the machine's ArrayIndexOutOfBoundsException is not the document's. */
    static String answer(Call c) {
        try {
            return Long.toString(c.run());
        } catch (RuntimeException e) {
            return "throws." + e.getClass().getSimpleName();
        }
    }

    static void indexRefused(String call, Maker maker, CallOn c) {
        refused("throws.IndexOutOfBoundsException", call, maker, c);
    }

    static void argumentRefused(String call, Maker maker, CallOn c) {
        refused("throws.IllegalArgumentException", call, maker, c);
    }

    static void unsupportedRefused(String call, Maker maker, CallOn c) {
        refused("throws.UnsupportedOperationException", call, maker, c);
    }

    /** The call is refused, and what later calls answer is what a twin answers on which it was not made. */
    private static void refused(String want, String call, Maker maker, CallOn c) {
        SortBench x = maker.make();
        due(call, want, answer(() -> c.run(x)));
        due(call + ", refused: later answers", laterAnswers(maker.make()), laterAnswers(x));
    }

    /** Some 250 calls, so that the makers' own calls and these stay within the 512 of one object. */
    private static String laterAnswers(SortBench x) {
        StringBuilder told = new StringBuilder();
        tellState(told, x);
        told.append(" put ").append(answer(() -> x.put(-5)));
        told.append(" more ").append(answer(() -> x.more(3, 50, 2)));
        told.append(" sort ").append(x.sort(3));
        tellState(told, x);
        told.append(" kill ").append(x.kill(2, 30));
        told.append(" sort ").append(x.sort(0));
        told.append(" clear ").append(x.clear());
        told.append(" put ").append(x.put(6)).append(" tag ").append(x.tag(0));
        for (int what = 0; what <= 8; what++) {
            told.append(' ').append(x.count(what));
        }
        return told.toString();
    }

    private static void tellState(StringBuilder told, SortBench x) {
        for (int what = 0; what <= 8; what++) {
            told.append(' ').append(x.count(what));
        }
        for (int how = 0; how <= 2; how++) {
            told.append(' ').append(x.is(how));
        }
        int had = (int) x.count(0);
        for (int i = 0; i < had; i += had / 40 + 1) {
            told.append(' ').append(x.get(i)).append('/').append(x.tag(i));
        }
        if (had > 0) {
            told.append(' ').append(x.get(had - 1)).append('/').append(x.tag(had - 1));
        }
    }

    static void row(String when, SortBench x, int... numbers) {
        due(when + ": count(0)", numbers.length, x.count(0));
        for (int i = 0; i < numbers.length && i < x.count(0); i++) {
            due(when + ": get(" + i + ")", numbers[i], x.get(i));
        }
    }

    static void tags(String when, SortBench x, int... tags) {
        due(when + ": count(0)", tags.length, x.count(0));
        for (int i = 0; i < tags.length && i < x.count(0); i++) {
            due(when + ": tag(" + i + ")", tags[i], x.tag(i));
        }
    }

    static SortBench of(int... numbers) {
        SortBench x = new SortBench();
        for (int v : numbers) {
            x.put(v);
        }
        return x;
    }

    static void end(String test) {
        System.out.println(test + ": " + asked + " answers, " + wrong + " not as due");
        if (wrong != 0 || asked == 0) {
            System.exit(1);
        }
    }
}
