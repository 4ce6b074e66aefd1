/**
 * The boundary cases of THE ORDER and its KEYS, of what counts as a COMPARISON, and of promises 7, 8, 9, 12
 * and 13 (the numbers that they take and refuse), sentence by sentence.
 */
public final class EdgeOrderTest {
    private static final int LEAST = Integer.MIN_VALUE;
    private static final int MOST = Integer.MAX_VALUE;
    private static final int[] FAR = {LEAST, LEAST + 1, -2, MOST - 1, MOST};

    public static void main(String[] args) {
        order0IsTheNumber();
        order1IsItsOpposite();
        order2IsItsLowestEightBits();
        order3IsItsSize();
        whatIsNoComparison();
        promise7Order();
        promise8Ways();
        promise9Ways();
        promise9HowMany();
        promise9RowAndOrder();
        promise12NoneOrOne();
        promise12NotLess();
        promise12AlikeByTags();
        promise12EachLess();
        promise12Refused();
        promise13Counts();
        promise13Latest();
        promise13Falls();
        promise13Refused();
        Check.end("EdgeOrderTest");
    }

    /** A row with a history: ORDER 3, moved TAGS, and every count above 0. */
    private static SortBench used() {
        SortBench x = new SortBench();
        x.kill(3, 40);
        x.kill(2, 600);
        x.clear();
        x.line(0, 3, 16, 1);
        x.line(-9, 3, 16, 1);
        x.sort(3);
        x.kill(2, 600);
        x.clear();
        x.order(3);
        x.more(8, 20, 30);
        x.turn(3, 30);
        return x;
    }

    /** Whether x < y, asked by INSERTING y, x: they change places, or not. */
    private static boolean less(int o, int x, int y) {
        SortBench bench = Check.of(y, x);
        bench.order(o);
        Check.due("two numbers: sort(0)", 1, bench.sort(0));
        return bench.tag(0) == 1;
    }

    private static void key(int o, int lower, int upper) {
        Check.due("ORDER " + o + ": " + lower + " < " + upper, true, less(o, lower, upper));
        Check.due("ORDER " + o + ": " + upper + " < " + lower, false, less(o, upper, lower));
    }

    private static void alike(int o, int x, int y) {
        Check.due("ORDER " + o + ": " + x + " < " + y, false, less(o, x, y));
        Check.due("ORDER " + o + ": " + y + " < " + x, false, less(o, y, x));
    }

    // "THE ORDER (0 .. 3) is by KEYS: 0 the number, 1 its opposite (as a long), 2 its lowest eight bits
    // (0 .. 255), 3 its size (as a long)."

    private static void order0IsTheNumber() {
        key(0, LEAST, LEAST + 1);
        key(0, LEAST, MOST);
        key(0, MOST - 1, MOST);
        key(0, -1, 0);
        key(0, 255, 256);
        alike(0, LEAST, LEAST);
        alike(0, MOST, MOST);
    }

    /** As an int the opposite of the least would be the least again. */
    private static void order1IsItsOpposite() {
        key(1, LEAST + 1, LEAST);
        key(1, MOST, LEAST);
        key(1, 0, LEAST);
        key(1, MOST, LEAST + 1);
        key(1, MOST, MOST - 1);
        key(1, 0, -1);
        key(1, 1, 0);
        alike(1, LEAST, LEAST);
        alike(1, 0, 0);
    }

    private static void order2IsItsLowestEightBits() {
        key(2, 0, 1);
        key(2, 254, 255);
        key(2, 256, 255);
        key(2, 256, 257);
        key(2, 0, -1);
        key(2, 127, 128);
        key(2, -256, -255);
        key(2, LEAST, MOST);
        alike(2, 0, 256);
        alike(2, 255, -1);
        alike(2, 0, -256);
        alike(2, 255, MOST);
        alike(2, 0, LEAST);
        alike(2, 128, -128);
    }

    /** As an int the size of the least would be below 0. */
    private static void order3IsItsSize() {
        key(3, MOST, LEAST);
        key(3, LEAST + 1, LEAST);
        key(3, 0, LEAST);
        key(3, 0, -1);
        key(3, 0, 1);
        key(3, 1, -2);
        alike(3, -1, 1);
        alike(3, MOST, LEAST + 1);
        alike(3, LEAST, LEAST);
    }

    // ".. this is a COMPARISON, and counts, each time that it is told below .. EXCHANGING and putting count for
    // nothing."

    private static void whatIsNoComparison() {
        SortBench x = new SortBench();
        x.put(3);
        x.more(1, 9, 5);
        x.line(9, -1, 5, 1);
        x.exchange(0, 10);
        x.turn(0, 11);
        x.order(2);
        x.is(0);
        x.is(1);
        x.is(2);
        x.get(0);
        x.tag(0);
        x.clear();
        Check.due("all but sort and kill: count(1)", 0, x.count(1));
        Check.due("all but sort and kill: count(2)", 0, x.count(2));
    }

    // Promise 7: "THE ORDER becomes 0 .. 3: what it was. IllegalArgument."

    private static void promise7Order() {
        SortBench x = new SortBench();
        int was = 0;
        for (int o : new int[] {0, 3, 3, 0, 1, 2, 0}) {
            Check.due("order(" + o + ")", was, x.order(o));
            Check.due("order(" + o + "): count(8)", o, x.count(8));
            was = o;
        }
        Check.argumentRefused("order(-1)", EdgeOrderTest::used, y -> y.order(-1));
        Check.argumentRefused("order(4)", EdgeOrderTest::used, y -> y.order(4));
        for (int o : FAR) {
            Check.argumentRefused("order(" + o + ")", EdgeOrderTest::used, y -> y.order(o));
        }
        SortBench z = new SortBench();
        z.order(2);
        Check.argument("ORDER 2: order(4)", () -> z.order(4));
        Check.due("ORDER 2, order(4) refused: order(1)", 2, z.order(1));
    }

    // Promise 8: "THE ROW is sorted in a way 0 .. 4: how many COMPARISONS that took. IllegalArgument."

    private static void promise8Ways() {
        for (int way = 0; way <= 4; way++) {
            SortBench x = Check.of(3, 3, 1);
            Check.due("3 3 1: sort(" + way + ") took what is counted", x.sort(way), x.count(2));
            Check.row("3 3 1: sort(" + way + ")", x, 1, 3, 3);
        }
        Check.argumentRefused("sort(-1)", EdgeOrderTest::used, x -> x.sort(-1));
        Check.argumentRefused("sort(5)", EdgeOrderTest::used, x -> x.sort(5));
        for (int way : FAR) {
            Check.argumentRefused("sort(" + way + ")", EdgeOrderTest::used, x -> x.sort(way));
        }
        Check.argumentRefused("none: sort(5)", SortBench::new, x -> x.sort(5));
        Check.argumentRefused("none: sort(-1)", SortBench::new, x -> x.sort(-1));
    }

    // Promise 9: "AN ADVERSARY of n (0 .. 600) against a way: how many COMPARISONS; THE ROW is as told (THE ORDER
    // stays, TAGS from 0 on). IllegalArgument."

    private static void promise9Ways() {
        Check.argumentRefused("kill(-1, 3)", EdgeOrderTest::used, x -> x.kill(-1, 3));
        Check.argumentRefused("kill(5, 3)", EdgeOrderTest::used, x -> x.kill(5, 3));
        Check.argumentRefused("kill(5, 0)", EdgeOrderTest::used, x -> x.kill(5, 0));
        Check.argumentRefused("kill(-1, 0)", EdgeOrderTest::used, x -> x.kill(-1, 0));
        for (int far : FAR) {
            Check.argumentRefused("kill(" + far + ", 3)", EdgeOrderTest::used, x -> x.kill(far, 3));
        }
    }

    private static void promise9HowMany() {
        for (int way = 0; way <= 4; way++) {
            int w = way;
            SortBench x = used();
            Check.due("kill(" + way + ", 0)", 0, x.kill(way, 0));
            Check.row("kill(" + way + ", 0)", x);
            Check.due("kill(" + way + ", 0): count(2)", 0, x.count(2));
            Check.due("kill(" + way + ", 1)", 0, x.kill(way, 1));
            // the only thing stays OPEN: its number is n
            Check.row("kill(" + way + ", 1)", x, 1);
            Check.tags("kill(" + way + ", 1)", x, 0);
            Check.due("kill(" + way + ", 2)", 1, x.kill(way, 2));
            Check.due("kill(" + way + ", 599) took what is counted", x.kill(way, 599), x.count(2));
            Check.due("kill(" + way + ", 599): count(0)", 599, x.count(0));
            Check.due("kill(" + way + ", 600) took what is counted", x.kill(way, 600), x.count(2));
            Check.due("kill(" + way + ", 600): count(0)", 600, x.count(0));
            Check.due("kill(" + way + ", 600): tag(599)", 599, x.tag(599));
            Check.argumentRefused("kill(" + way + ", -1)", EdgeOrderTest::used, y -> y.kill(w, -1));
            Check.argumentRefused("kill(" + way + ", 601)", EdgeOrderTest::used, y -> y.kill(w, 601));
        }
        for (int far : FAR) {
            Check.argumentRefused("kill(0, " + far + ")", EdgeOrderTest::used, y -> y.kill(0, far));
            Check.argumentRefused("kill(5, " + far + ")", EdgeOrderTest::used, y -> y.kill(5, far));
        }
    }

    /** ORDER 1 would turn the ADVERSARY's answers round, ORDER 2 would make 256 and 0 alike. */
    private static void promise9RowAndOrder() {
        for (int o = 0; o <= 3; o++) {
            SortBench x = new SortBench();
            x.line(9, -1, 600, 1);
            x.order(o);
            Check.due("ORDER " + o + ": kill(0, 300)", 299, x.kill(0, 300));
            Check.due("ORDER " + o + ", killed: get(0)", 0, x.get(0));
            Check.due("ORDER " + o + ", killed: get(256)", 256, x.get(256));
            Check.due("ORDER " + o + ", killed: get(298)", 298, x.get(298));
            Check.due("ORDER " + o + ", killed: get(299), which stayed OPEN", 300, x.get(299));
            Check.due("ORDER " + o + ", killed: tag(0)", 0, x.tag(0));
            Check.due("ORDER " + o + ", killed: tag(299)", 299, x.tag(299));
            Check.due("ORDER " + o + ", killed: order", o, x.order(0));
        }
    }

    // Promise 12: "Whether each KEY is not less than the one before (how = 0); whether, besides, those alike in
    // KEYS are by their TAGS (1); whether each is less than the one before (2). IllegalArgument."

    private static void promise12NoneOrOne() {
        for (int how = 0; how <= 2; how++) {
            Check.due("none: is(" + how + ")", true, new SortBench().is(how));
            Check.due("one: is(" + how + ")", true, Check.of(LEAST).is(how));
            SortBench emptied = Check.of(2, 2, 1, 3);
            emptied.clear();
            Check.due("emptied: is(" + how + ")", true, emptied.is(how));
        }
    }

    private static void is(String when, SortBench x, boolean notLess, boolean byTags, boolean less) {
        Check.due(when + ": is(0)", notLess, x.is(0));
        Check.due(when + ": is(1)", byTags, x.is(1));
        Check.due(when + ": is(2)", less, x.is(2));
    }

    private static void promise12NotLess() {
        is("1 2", Check.of(1, 2), true, true, false);
        is("2 2", Check.of(2, 2), true, true, false);
        is("2 1", Check.of(2, 1), false, false, true);
        is("the last is one less", Check.of(1, 2, 3, 2), false, false, false);
        is("the second is one less", Check.of(2, 1, 2, 3), false, false, false);
        is("least, greatest", Check.of(LEAST, MOST), true, true, false);
        is("greatest, least", Check.of(MOST, LEAST), false, false, true);
        SortBench full = new SortBench();
        full.line(0, 1, 599, 1);
        full.put(597);
        Check.due("600, the last is one less: is(0)", false, full.is(0));
        full.exchange(598, 599);
        full.exchange(597, 598);
        // 597 (TAG 599), 597 (TAG 597), 598
        Check.due("600, two alike: is(0)", true, full.is(0));
        Check.due("600, two alike, TAGS 599 and 597: is(1)", false, full.is(1));
    }

    private static void promise12AlikeByTags() {
        SortBench x = Check.of(5, 5, 5);
        is("5 5 5", x, true, true, false);
        x.exchange(1, 2);
        is("5 5 5, TAGS 0 2 1", x, true, false, false);
        x.exchange(0, 1);
        is("5 5 5, TAGS 2 0 1", x, true, false, false);
        SortBench y = Check.of(6, 5);
        y.exchange(0, 1);
        is("5 6, TAGS 1 0, not alike", y, true, true, false);
        SortBench z = Check.of(256, 512);
        is("256 512", z, true, true, false);
        z.exchange(0, 1);
        is("512 256", z, false, false, true);
        z.order(2);
        is("512 256 in ORDER 2, alike, TAGS 1 0", z, true, false, false);
        z.exchange(0, 1);
        is("256 512 in ORDER 2, alike, TAGS 0 1", z, true, true, false);
    }

    private static void promise12EachLess() {
        is("3 2 1", Check.of(3, 2, 1), false, false, true);
        is("3 2 2", Check.of(3, 2, 2), false, false, false);
        is("3 3 2", Check.of(3, 3, 2), false, false, false);
        SortBench x = Check.of(LEAST, MOST, -5, 0);
        is("least, greatest, -5, 0", x, false, false, false);
        x.order(3);
        is("least, greatest, -5, 0 in ORDER 3", x, false, false, true);
        SortBench y = Check.of(LEAST, 0, MOST);
        y.order(1);
        is("least, 0, greatest in ORDER 1", y, false, false, true);
    }

    private static void promise12Refused() {
        Check.argumentRefused("is(-1)", EdgeOrderTest::used, x -> x.is(-1) ? 1 : 0);
        Check.argumentRefused("is(3)", EdgeOrderTest::used, x -> x.is(3) ? 1 : 0);
        for (int how : FAR) {
            Check.argumentRefused("is(" + how + ")", EdgeOrderTest::used, x -> x.is(how) ? 1 : 0);
        }
        Check.argument("none: is(3)", () -> new SortBench().is(3) ? 1 : 0);
        Check.argument("none: is(-1)", () -> new SortBench().is(-1) ? 1 : 0);
    }

    // Promise 13: "How many numbers (what = 0), COMPARISONS in all (1), of the latest sorting (2), FALLS in all
    // (3), of the latest (4), ranges that were PARTED in all (5), RUNS that came onto a pile in all (6), how often
    // two were MERGED (7); THE ORDER (8). (An ADVERSARY's count likewise.) IllegalArgument."

    private static void counts(String when, SortBench x, long... want) {
        for (int what = 0; what < want.length; what++) {
            Check.due(when + ": count(" + what + ")", want[what], x.count(what));
        }
    }

    private static void promise13Counts() {
        SortBench x = new SortBench();
        x.sort(3);
        counts("none, sort(3)", x, 0, 0, 0, 0, 0, 0, 0, 0, 0);
        x.put(4);
        x.sort(3);
        counts("one, sort(3): a RUN of one", x, 1, 0, 0, 0, 0, 0, 1, 0, 0);
        x.put(3);
        x.sort(3);
        counts("two, sort(3)", x, 2, 1, 1, 0, 0, 0, 2, 0, 0);
        x.order(3);
        x.clear();
        x.line(0, 1, 24, 1);
        x.sort(2);
        // 3 by THREE, 13 and 12 till it is PARTED, 11 and 10 by PARTLY
        counts("24 rising, sort(2)", x, 24, 50, 49, 0, 0, 1, 2, 0, 3);
        x.kill(3, 16);
        counts("kill(3, 16)", x, 16, 65, 15, 0, 0, 1, 3, 0, 3);
    }

    private static void promise13Latest() {
        SortBench x = Check.of(2, 1);
        x.sort(0);
        counts("2 1, sort(0)", x, 2, 1, 1);
        x.clear();
        counts("cleared", x, 0, 1, 1);
        x.sort(0);
        counts("none, sort(0): the latest took none", x, 0, 1, 0);
        x.kill(4, 3);
        counts("kill(4, 3)", x, 3, 3, 2);
        x.kill(4, 1);
        counts("kill(4, 1): the latest took none", x, 1, 3, 0);
        Check.argument("sort(5)", () -> x.sort(5));
        Check.argument("kill(0, 601)", () -> x.kill(0, 601));
        counts("refused ones are no sortings", x, 1, 3, 0);
    }

    private static void promise13Falls() {
        SortBench x = new SortBench();
        x.kill(2, 29);
        counts("kill(2, 29): 29, 27 and 25 are PARTED, 23 are UNGUARDED", x, 29, x.count(1), x.count(1), 0, 0, 3);
        long asked = x.count(1);
        int took = x.kill(2, 31);
        counts("kill(2, 31): 31, 29, 27 and 25 are PARTED, and then it FALLS", x, 31, asked + took, took, 1, 1, 7);
        took = x.sort(2);
        counts("the same again by sort(2)", x, 31, asked + 2L * took, took, 2, 1, 11);
        x.sort(1);
        Check.due("HEAP by itself is no FALL: count(3)", 2, x.count(3));
        Check.due("HEAP by itself is no FALL: count(4)", 0, x.count(4));
    }

    private static void promise13Refused() {
        Check.argumentRefused("count(-1)", EdgeOrderTest::used, x -> x.count(-1));
        Check.argumentRefused("count(9)", EdgeOrderTest::used, x -> x.count(9));
        for (int what : FAR) {
            Check.argumentRefused("count(" + what + ")", EdgeOrderTest::used, x -> x.count(what));
        }
    }
}
