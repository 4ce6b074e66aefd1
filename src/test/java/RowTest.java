/** Promises 1 to 7, 10, 11 and 14: what comes into THE ROW, and where it stands. */
public final class RowTest {
    private static final int LEAST = Integer.MIN_VALUE;
    private static final int MOST = Integer.MAX_VALUE;

    public static void main(String[] args) {
        promise1New();
        promise2Put();
        promise3More();
        promise4Line();
        promise5Exchange();
        promise6Turn();
        promise7Order();
        promises10And11GetTag();
        promise14Clear();
        Check.end("RowTest");
    }

    private static void promise1New() {
        SortBench x = new SortBench();
        for (int what = 0; what <= 8; what++) {
            Check.due("new: count(" + what + ")", 0, x.count(what));
        }
        Check.due("new: order(0)", 0, x.order(0));
        Check.due("new: clear()", 0, x.clear());
        Check.index("new: get(0)", () -> x.get(0));
    }

    private static void promise2Put() {
        SortBench x = new SortBench();
        Check.due("put(7)", 1, x.put(7));
        Check.due("put(least)", 2, x.put(LEAST));
        Check.due("put(most)", 3, x.put(MOST));
        Check.row("put", x, 7, LEAST, MOST);
        Check.tags("put", x, 0, 1, 2);
        for (int k = 4; k <= 400; k++) {
            Check.due("put the " + k + "th", k, x.put(k));
        }
        x.line(401, 1, 199, 1);
        Check.due("put the 600th", 600, x.put(600));
        Check.unsupported("put the 601st", () -> x.put(1));
        Check.due("after the 601st: count(0)", 600, x.count(0));
        Check.due("after the 601st: get(599)", 600, x.get(599));
        Check.due("after the 601st: tag(599)", 599, x.tag(599));
    }

    private static void promise3More() {
        SortBench x = new SortBench();
        Check.due("more(0, most, 1)", 1, x.more(0, MOST, 1));
        // 1442695040888963407 shifted right by 33 bits
        Check.due("more(0, most, 1): get(0)", 167951807, x.get(0));
        Check.due("more(0, 10, 1)", 2, x.more(0, 10, 1));
        Check.due("more(0, 10, 1): get(1)", 7, x.get(1));
        Check.due("more(0, 1, 3)", 5, x.more(0, 1, 3));
        Check.due("more(0, 1, 3): get(4)", 0, x.get(4));
        Check.tags("more", x, 0, 1, 2, 3, 4);
        moreRunsOn();
        moreRefuses();
    }

    private static void moreRunsOn() {
        for (long seed : new long[] {1, -1, 77, Long.MIN_VALUE, Long.MAX_VALUE}) {
            SortBench x = new SortBench();
            x.more(seed, 1000003, 20);
            java.math.BigInteger wide = java.math.BigInteger.valueOf(seed);
            for (int i = 0; i < 20; i++) {
                wide = wide.multiply(new java.math.BigInteger("6364136223846793005"))
                    .add(new java.math.BigInteger("1442695040888963407"))
                    .mod(java.math.BigInteger.TWO.pow(64));
                long want = wide.shiftRight(33).mod(java.math.BigInteger.valueOf(1000003)).longValue();
                Check.due("more(" + seed + ", 1000003, 20): get(" + i + ")", want, x.get(i));
            }
        }
    }

    private static void moreRefuses() {
        SortBench x = Check.of(5);
        Check.argument("more(1, 0, 1)", () -> x.more(1, 0, 1));
        Check.argument("more(1, -1, 1)", () -> x.more(1, -1, 1));
        Check.argument("more(1, least, 1)", () -> x.more(1, LEAST, 1));
        Check.argument("more(1, 5, -1)", () -> x.more(1, 5, -1));
        Check.argument("more(1, 5, 601)", () -> x.more(1, 5, 601));
        Check.argument("more(1, 5, least)", () -> x.more(1, 5, LEAST));
        Check.argument("more(1, 5, most)", () -> x.more(1, 5, MOST));
        Check.unsupported("more(1, 5, 600) behind one", () -> x.more(1, 5, 600));
        Check.argument("more(1, 0, 600) behind one", () -> x.more(1, 0, 600));
        Check.row("more refused", x, 5);
        Check.due("more(1, 5, 599) behind one", 600, x.more(1, 5, 599));
        Check.due("more(1, 5, 0) when full", 600, x.more(1, 5, 0));
        Check.unsupported("more(1, 5, 1) when full", () -> x.more(1, 5, 1));
        Check.argument("more(1, 5, 601) when full", () -> x.more(1, 5, 601));
    }

    private static void promise4Line() {
        SortBench x = new SortBench();
        Check.due("line(10, -3, 7, 3)", 7, x.line(10, -3, 7, 3));
        Check.row("line(10, -3, 7, 3)", x, 10, 10, 10, 7, 7, 7, 4);
        Check.tags("line(10, -3, 7, 3)", x, 0, 1, 2, 3, 4, 5, 6);
        x.clear();
        x.line(MOST, 1, 3, 1);
        Check.row("line running over", x, MOST, LEAST, LEAST + 1);
        x.clear();
        x.line(0, MOST, 4, 1);
        Check.row("line with the greatest step", x, 0, MOST, -2, MOST - 2);
        Check.due("line(1, 1, 0, 600)", 4, x.line(1, 1, 0, 600));
        Check.due("line(8, 1, 2, 600)", 6, x.line(8, 1, 2, 600));
        Check.due("line(8, 1, 2, 600): get(5)", 8, x.get(5));
        Check.argument("line(1, 1, -1, 1)", () -> x.line(1, 1, -1, 1));
        Check.argument("line(1, 1, 601, 1)", () -> x.line(1, 1, 601, 1));
        Check.argument("line(1, 1, 1, 0)", () -> x.line(1, 1, 1, 0));
        Check.argument("line(1, 1, 1, -1)", () -> x.line(1, 1, 1, -1));
        Check.argument("line(1, 1, 1, 601)", () -> x.line(1, 1, 1, 601));
        Check.argument("line(1, 1, 0, 0)", () -> x.line(1, 1, 0, 0));
        Check.unsupported("line(1, 1, 595, 1) behind six", () -> x.line(1, 1, 595, 1));
        Check.argument("line(1, 1, 595, 0) behind six", () -> x.line(1, 1, 595, 0));
        Check.due("line refused: count(0)", 6, x.count(0));
        Check.due("line(1, 1, 594, 1)", 600, x.line(1, 1, 594, 1));
        Check.due("line(1, 1, 0, 1) when full", 600, x.line(1, 1, 0, 1));
    }

    private static void promise5Exchange() {
        SortBench x = Check.of(30, 31, 32);
        x.exchange(0, 2);
        Check.row("exchange(0, 2)", x, 32, 31, 30);
        Check.tags("exchange(0, 2)", x, 2, 1, 0);
        x.exchange(1, 1);
        x.exchange(1, 0);
        Check.row("exchange(1, 0)", x, 31, 32, 30);
        Check.tags("exchange(1, 0)", x, 1, 2, 0);
        int[][] none = {{-1, 0}, {0, -1}, {3, 0}, {0, 3}, {LEAST, MOST}, {600, 600}, {2, 599}};
        for (int[] p : none) {
            Check.index("exchange(" + p[0] + ", " + p[1] + ")", () -> {
                x.exchange(p[0], p[1]);
                return 0;
            });
        }
        Check.row("exchange refused", x, 31, 32, 30);
    }

    private static void promise6Turn() {
        SortBench x = Check.of(40, 41, 42, 43, 44);
        x.turn(1, 4);
        Check.row("turn(1, 4)", x, 40, 43, 42, 41, 44);
        Check.tags("turn(1, 4)", x, 0, 3, 2, 1, 4);
        x.turn(0, 5);
        Check.row("turn(0, 5)", x, 44, 41, 42, 43, 40);
        x.turn(0, 2);
        Check.row("turn(0, 2)", x, 41, 44, 42, 43, 40);
        x.turn(0, 0);
        x.turn(5, 5);
        x.turn(2, 3);
        int[][] none = {{-1, 2}, {0, 6}, {3, 2}, {5, 4}, {6, 6}, {-1, -1}, {LEAST, MOST}, {MOST, LEAST}, {0, 600}};
        for (int[] p : none) {
            Check.index("turn(" + p[0] + ", " + p[1] + ")", () -> {
                x.turn(p[0], p[1]);
                return 0;
            });
        }
        Check.row("turn refused", x, 41, 44, 42, 43, 40);
        Check.tags("turn refused", x, 1, 4, 2, 3, 0);
    }

    private static void promise7Order() {
        SortBench x = Check.of(-1, 256, LEAST, 3, MOST, -300);
        Check.due("order(1)", 0, x.order(1));
        x.sort(0);
        Check.row("order 1", x, MOST, 256, 3, -1, -300, LEAST);
        Check.due("order(2)", 1, x.order(2));
        x.sort(0);
        // lowest eight bits: 255, 0, 3, 255, 212, 0, of which those alike stay as they stood
        Check.row("order 2", x, 256, LEAST, 3, -300, MOST, -1);
        Check.due("order(3)", 2, x.order(3));
        x.sort(0);
        Check.row("order 3", x, -1, 3, 256, -300, MOST, LEAST);
        Check.argument("order(4)", () -> x.order(4));
        Check.argument("order(-1)", () -> x.order(-1));
        Check.argument("order(least)", () -> x.order(LEAST));
        Check.due("order(0)", 3, x.order(0));
        x.sort(0);
        Check.row("order 0", x, LEAST, -300, -1, 3, 256, MOST);
        Check.due("order(0) again", 0, x.order(0));
    }

    private static void promises10And11GetTag() {
        SortBench x = Check.of(9, 8);
        Check.due("get(1)", 8, x.get(1));
        Check.due("tag(1)", 1, x.tag(1));
        x.sort(0);
        Check.due("sorted: get(0)", 8, x.get(0));
        Check.due("sorted: tag(0)", 1, x.tag(0));
        x.put(5);
        Check.due("put behind sorted ones: tag(2)", 2, x.tag(2));
        for (int i : new int[] {-1, 3, 599, 600, LEAST, MOST}) {
            Check.index("get(" + i + ")", () -> x.get(i));
            Check.index("tag(" + i + ")", () -> x.tag(i));
        }
    }

    private static void promise14Clear() {
        SortBench x = Check.of(3, 2, 1);
        x.order(1);
        x.sort(3);
        x.order(2);
        Check.due("clear()", 3, x.clear());
        Check.due("cleared: clear()", 0, x.clear());
        Check.due("cleared: count(0)", 0, x.count(0));
        Check.due("cleared: count(1)", 2, x.count(1));
        Check.due("cleared: count(2)", 2, x.count(2));
        Check.due("cleared: count(6)", 1, x.count(6));
        Check.due("cleared: count(8)", 2, x.count(8));
        Check.index("cleared: get(0)", () -> x.get(0));
        Check.due("cleared: put(4)", 1, x.put(4));
        Check.tags("cleared", x, 0);
        x.clear();
        Check.due("cleared: more(1, 9, 600)", 600, x.more(1, 9, 600));
        Check.due("clear() of 600", 600, x.clear());
    }
}
