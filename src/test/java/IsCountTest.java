/** Promises 12 and 13: is and count. */
public final class IsCountTest {
    public static void main(String[] args) {
        promise12Is();
        promise12ByKeys();
        promise13Count();
        promise13Latest();
        wrongInputs();
        Check.end("IsCountTest");
    }

    private static void is(String row, SortBench x, boolean sorted, boolean byTags, boolean falling) {
        Check.due(row + ": is(0)", sorted, x.is(0));
        Check.due(row + ": is(1)", byTags, x.is(1));
        Check.due(row + ": is(2)", falling, x.is(2));
    }

    private static void promise12Is() {
        is("none", Check.of(), true, true, true);
        is("one", Check.of(4), true, true, true);
        is("1 2", Check.of(1, 2), true, true, false);
        is("2 1", Check.of(2, 1), false, false, true);
        is("2 2", Check.of(2, 2), true, true, false);
        is("3 2 2", Check.of(3, 2, 2), false, false, false);
        is("1 3 2", Check.of(1, 3, 2), false, false, false);
        SortBench x = Check.of(2, 2, 3);
        x.exchange(0, 1);
        is("2 2 3 with the TAGS 1 0 2", x, true, false, false);
        SortBench y = Check.of(3, 1);
        y.turn(0, 2);
        is("1 3 with the TAGS 1 0", y, true, true, false);
        Check.due("is asks no COMPARISON: count(1)", 0, y.count(1));
    }

    private static void promise12ByKeys() {
        SortBench x = Check.of(Integer.MIN_VALUE, -2, 1);
        is("least -2 1", x, true, true, false);
        x.order(1);
        is("least -2 1 in order 1", x, false, false, true);
        x.order(3);
        is("least -2 1 in order 3", x, false, false, true);
        x.order(2);
        is("least -2 1 in order 2", x, false, false, false);
        SortBench y = Check.of(-256, 512, 0);
        y.order(2);
        is("-256 512 0 in order 2", y, true, true, false);
    }

    private static void promise13Count() {
        SortBench x = new SortBench();
        x.order(1);
        x.line(0, 1, 24, 1);
        x.order(0);
        x.sort(2);
        x.sort(3);
        counts("24 rising, ways 2 and 3", x, 24, 49 + 23, 23, 0, 0, 1, 1, 0, 0);
        x.clear();
        x.line(0, 1, 16, 1);
        x.line(0, 1, 16, 1);
        x.sort(3);
        x.order(3);
        counts("two runs of 16, way 3", x, 32, 49 + 23 + 62, 62, 0, 0, 1, 3, 1, 3);
        x.kill(0, 3);
        counts("kill(0, 3)", x, 3, 49 + 23 + 62 + 2, 2, 0, 0, 1, 3, 1, 3);
    }

    private static void counts(String when, SortBench x, long... want) {
        for (int what = 0; what < want.length; what++) {
            Check.due(when + ": count(" + what + ")", want[what], x.count(what));
        }
    }

    private static void promise13Latest() {
        SortBench x = new SortBench();
        int took = x.kill(2, 600);
        long falls = x.count(3);
        Check.due("kill(2, 600): count(2)", took, x.count(2));
        Check.due("kill(2, 600): count(3) is not 0", true, falls > 0);
        Check.due("kill(2, 600): count(4)", falls, x.count(4));
        x.clear();
        Check.due("cleared: count(4)", falls, x.count(4));
        x.sort(2);
        Check.due("none sorted: count(2)", 0, x.count(2));
        Check.due("none sorted: count(4)", 0, x.count(4));
        Check.due("none sorted: count(3)", falls, x.count(3));
        Check.due("none sorted: count(1)", took, x.count(1));
    }

    private static void wrongInputs() {
        SortBench x = Check.of(1, 2);
        for (int how : new int[] {-1, 3, Integer.MIN_VALUE, Integer.MAX_VALUE}) {
            Check.argument("is(" + how + ")", () -> x.is(how) ? 1 : 0);
        }
        for (int what : new int[] {-1, 9, Integer.MIN_VALUE, Integer.MAX_VALUE}) {
            Check.argument("count(" + what + ")", () -> x.count(what));
        }
    }
}
