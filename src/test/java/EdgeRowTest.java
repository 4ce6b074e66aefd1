/**
 * The boundary cases of "What it is", of the refusals, and of promises 1 to 6, 10, 11 and 14, sentence by
 * sentence: at the boundary, one beyond it on each side, and what is answered after a refused call.
 */
public final class EdgeRowTest {
    private static final int LEAST = Integer.MIN_VALUE;
    private static final int MOST = Integer.MAX_VALUE;

    public static void main(String[] args) {
        rowHasUpTo600();
        numbersHave32Bits();
        placesAreFrom0On();
        tagsAreSinceItWasEmptied();
        the512thCall();
        theDearest512Calls();
        ofSeveralRefusalsTheFirst();
        promise1Empty();
        promise2Behind();
        promise3HowMany();
        promise3Span();
        promise3SeedRunsOver();
        promise3TooMany();
        promise4HowMany();
        promise4Times();
        promise4RunningOver();
        promise4TooMany();
        promise5Exchange();
        promise6Turn();
        promises10And11();
        promise14Clear();
        Check.end("EdgeRowTest");
    }

    /** Numbers 0, 1, 2 and so on. */
    private static SortBench rising(int n) {
        SortBench x = new SortBench();
        x.line(0, 1, n, 1);
        return x;
    }

    /** A row with a history: an ORDER, moved TAGS and every count but FALLS above 0. */
    private static SortBench used(int n) {
        SortBench x = rising(60);
        x.order(1);
        x.sort(2);
        x.clear();
        x.line(0, 3, 16, 1);
        x.line(-9, 3, 16, 1);
        x.sort(3);
        x.clear();
        x.more(5, 90, n);
        x.turn(0, n);
        return x;
    }

    // "THE ROW has up to 600 numbers (32 bits), at places from 0 on, each with a TAG: how many came before it
    // since it was emptied."

    private static void rowHasUpTo600() {
        Check.due("599, put", 600, rising(599).put(1));
        Check.due("none, more of 600", 600, new SortBench().more(1, 9, 600));
        Check.due("none, line of 600", 600, new SortBench().line(1, 1, 600, 1));
        Check.unsupportedRefused("600, put", () -> used(600), x -> x.put(1));
        Check.unsupportedRefused("600, more of 1", () -> used(600), x -> x.more(1, 9, 1));
        Check.unsupportedRefused("600, line of 1", () -> used(600), x -> x.line(1, 1, 1, 1));
        SortBench full = rising(600);
        Check.due("600, kill of 600 takes their place", 599, full.kill(0, 600));
        Check.due("600 by kill", 600, full.count(0));
        Check.unsupported("600 by kill, put", () -> full.put(1));
        Check.due("600 by kill, then kill of 599", 598, full.kill(0, 599));
        Check.due("599 by kill, put", 600, full.put(1));
    }

    private static void numbersHave32Bits() {
        SortBench x = Check.of(LEAST, LEAST + 1, -1, 0, 1, MOST - 1, MOST);
        Check.row("32 bits", x, LEAST, LEAST + 1, -1, 0, 1, MOST - 1, MOST);
        for (int way = 0; way <= 4; way++) {
            SortBench y = Check.of(MOST, 0, LEAST, -1, MOST - 1, 1, LEAST + 1);
            y.sort(way);
            Check.row("32 bits, way " + way, y, LEAST, LEAST + 1, -1, 0, 1, MOST - 1, MOST);
        }
    }

    private static void placesAreFrom0On() {
        SortBench x = rising(600);
        Check.due("600: get(0)", 0, x.get(0));
        Check.due("600: get(599)", 599, x.get(599));
        Check.index("600: get(-1)", () -> x.get(-1));
        Check.index("600: get(600)", () -> x.get(600));
        Check.due("600: tag(0)", 0, x.tag(0));
        Check.due("600: tag(599)", 599, x.tag(599));
        Check.index("600: tag(-1)", () -> x.tag(-1));
        Check.index("600: tag(600)", () -> x.tag(600));
    }

    private static void tagsAreSinceItWasEmptied() {
        SortBench x = Check.of(8, 7);
        x.more(1, 5, 2);
        x.line(3, 1, 2, 1);
        Check.tags("put, more and line", x, 0, 1, 2, 3, 4, 5);
        x.turn(0, 6);
        x.sort(1);
        x.put(0);
        Check.due("behind moved ones: tag(6)", 6, x.tag(6));
        x.clear();
        Check.due("emptied: put", 1, x.put(4));
        x.put(4);
        Check.tags("emptied", x, 0, 1);
        x.kill(1, 3);
        x.put(9);
        Check.tags("behind an ADVERSARY of 3", x, 0, 1, 2, 3);
        x.kill(1, 0);
        x.put(9);
        Check.tags("behind an ADVERSARY of 0", x, 0);
    }

    // "An object is used for at most 512 calls after it has been made": the 512th answers as the first.

    private static void the512thCall() {
        Check.due("512th: put", 312, worn().put(7));
        Check.due("512th: more", 313, worn().more(0, 10, 2));
        Check.due("512th: line", 600, worn().line(1, 1, 289, 1));
        Check.due("512th: order", 3, worn().order(0));
        Check.due("512th: sort", 310, worn().sort(3));
        Check.due("512th: kill", 2, worn().kill(0, 3));
        Check.due("512th: get", 310, worn().get(310));
        Check.due("512th: tag", 310, worn().tag(310));
        Check.due("512th: is", true, worn().is(1));
        Check.due("512th: count(0)", 311, worn().count(0));
        Check.due("512th: count(1)", 0, worn().count(1));
        Check.due("512th: clear", 311, worn().clear());
        Check.index("512th: get(311)", () -> worn().get(311));
        Check.argument("512th: sort(5)", () -> worn().sort(5));
        Check.unsupported("512th: line of 290", () -> worn().line(1, 1, 290, 1));
        Check.index("512th: exchange(0, 311)", () -> {
            worn().exchange(0, 311);
            return 0;
        });
        Check.index("512th: turn(0, 312)", () -> {
            worn().turn(0, 312);
            return 0;
        });
    }

    /** 311 numbers, rising, ORDER 3, nothing counted; 511 calls were made. */
    private static SortBench worn() {
        SortBench x = new SortBench();
        for (int k = 0; k < 311; k++) {
            x.put(k);
        }
        for (int k = 0; k < 99; k++) {
            x.turn(0, 311);
            x.turn(0, 311);
        }
        x.exchange(1, 1);
        x.order(3);
        return x;
    }

    /** A falling row of 600 is INSERTED with 600 * 599 / 2 COMPARISONS; turned, it falls again. */
    private static void theDearest512Calls() {
        SortBench x = new SortBench();
        x.line(599, -1, 600, 1);
        for (int k = 0; k < 254; k++) {
            Check.due("falling, sort(0), the " + k + "th", 179700, x.sort(0));
            x.turn(0, 600);
        }
        Check.due("call 510: sort(0)", 179700, x.sort(0));
        Check.due("call 511: get(599)", 599, x.get(599));
        Check.due("call 512: count(1)", 255L * 179700, x.count(1));
    }

    // "IndexOutOfBounds: there is no such place. IllegalArgument: another number is none told.
    // UnsupportedOperation: more than 600 numbers. Of several the first in this order."

    private static void ofSeveralRefusalsTheFirst() {
        Check.argumentRefused("full, more: span 0, n 1", () -> used(600), x -> x.more(1, 0, 1));
        Check.argumentRefused("full, more: n 601", () -> used(600), x -> x.more(1, 1, 601));
        Check.argumentRefused("full, more: n -1", () -> used(600), x -> x.more(1, 1, -1));
        Check.argumentRefused("full, more: span 0, n 601", () -> used(600), x -> x.more(1, 0, 601));
        Check.argumentRefused("full, line: times 0, n 1", () -> used(600), x -> x.line(1, 1, 1, 0));
        Check.argumentRefused("full, line: times 601, n 1", () -> used(600), x -> x.line(1, 1, 1, 601));
        Check.argumentRefused("full, line: n 601", () -> used(600), x -> x.line(1, 1, 601, 1));
        Check.argumentRefused("full, line: times 0, n 601", () -> used(600), x -> x.line(1, 1, 601, 0));
        Check.argumentRefused("none, more: n 601", SortBench::new, x -> x.more(1, 1, 601));
        Check.argumentRefused("none, line: n 601", SortBench::new, x -> x.line(1, 1, 601, 1));
    }

    // Promise 1: "An empty ROW, ORDER 0, nothing counted."

    private static void promise1Empty() {
        for (int what = 0; what <= 8; what++) {
            Check.due("new: count(" + what + ")", 0, new SortBench().count(what));
        }
        Check.due("new: order(3)", 0, new SortBench().order(3));
        Check.due("new: clear", 0, new SortBench().clear());
        Check.due("new: put", 1, new SortBench().put(1));
        Check.indexRefused("new: get(0)", SortBench::new, x -> x.get(0));
        Check.indexRefused("new: tag(0)", SortBench::new, x -> x.tag(0));
        Check.indexRefused("new: exchange(0, 0)", SortBench::new, x -> exchange(x, 0, 0));
        Check.indexRefused("new: turn(0, 1)", SortBench::new, x -> turn(x, 0, 1));
        SortBench x = new SortBench();
        x.turn(0, 0);
        Check.due("new: turn(0, 0)", 0, x.count(0));
    }

    private static long exchange(SortBench x, int i, int j) {
        x.exchange(i, j);
        return 0;
    }

    private static long turn(SortBench x, int from, int to) {
        x.turn(from, to);
        return 0;
    }

    // Promise 2: "A number comes behind THE ROW: how many it has. UnsupportedOperation."

    private static void promise2Behind() {
        SortBench x = rising(598);
        Check.due("598: put(LEAST)", 599, x.put(LEAST));
        Check.due("599: put(MOST)", 600, x.put(MOST));
        Check.unsupported("600: put(5)", () -> x.put(5));
        Check.due("600: get(597)", 597, x.get(597));
        Check.due("600: get(598)", LEAST, x.get(598));
        Check.due("600: get(599)", MOST, x.get(599));
        Check.due("600: tag(599)", 599, x.tag(599));
        Check.index("600: get(600)", () -> x.get(600));
        x.clear();
        Check.due("emptied: put", 1, x.put(5));
        Check.row("emptied", x, 5);
    }

    // Promise 3: "n numbers come (0 .. 600) .. modulo span (1 .. 2147483647): how many THE ROW has.
    // IllegalArgument; UnsupportedOperation (none comes)."

    private static void promise3HowMany() {
        Check.due("more of 0", 7, rising(7).more(1, 9, 0));
        Check.due("more of 0, none", 0, new SortBench().more(1, 9, 0));
        Check.due("more of 0, full", 600, rising(600).more(1, 9, 0));
        Check.due("more of 1", 8, rising(7).more(1, 9, 1));
        Check.due("more of 599", 599, new SortBench().more(1, 9, 599));
        Check.due("more of 600", 600, new SortBench().more(1, 9, 600));
        for (int n : new int[] {-1, 601, LEAST, MOST}) {
            Check.argumentRefused("more of " + n, () -> used(7), x -> x.more(1, 9, n));
        }
    }

    private static void promise3Span() {
        SortBench x = new SortBench();
        // the seed 0 becomes 1442695040888963407, which shifted right by 33 is 167951807
        x.more(0, 1, 1);
        x.more(0, 2, 1);
        x.more(0, 167951806, 1);
        x.more(0, 167951807, 1);
        x.more(0, 167951808, 1);
        x.more(0, MOST - 1, 1);
        x.more(0, MOST, 1);
        Check.row("spans", x, 0, 1, 1, 0, 167951807, 167951807, 167951807);
        for (int span : new int[] {0, -1, LEAST, -MOST}) {
            Check.argumentRefused("more, span " + span, () -> used(7), y -> y.more(1, span, 1));
            Check.argumentRefused("more of 0, span " + span, () -> used(7), y -> y.more(1, span, 0));
        }
    }

    private static void promise3SeedRunsOver() {
        SortBench x = new SortBench();
        // with these as the first x, the seeds being solved modulo 2^64 for them
        long[] wanted = {-1, Long.MIN_VALUE, 1L << 33, (1L << 33) - 1, 0};
        for (long w : wanted) {
            x.more(seedFor(w), MOST, 1);
        }
        // 2^31 - 1 modulo 2^31 - 1 is 0; 2^30; 1; 0; 0
        Check.row("first x at the edges of 64 bits", x, 0, 1 << 30, 1, 0, 0);
        SortBench y = new SortBench();
        y.more(seedFor(-1), MOST - 1, 1);
        // (2^31 - 1) modulo (2^31 - 2)
        Check.row("first x is 2^64 - 1, span 2147483646", y, 1);
        SortBench z = new SortBench();
        z.more(seedFor(0), MOST, 2);
        Check.row("x goes on from number to number", z, 0, 167951807);
    }

    /** The seed with which the first x comes to firstX. */
    private static long seedFor(long firstX) {
        java.math.BigInteger wrap = java.math.BigInteger.TWO.pow(64);
        return java.math.BigInteger.valueOf(firstX)
            .subtract(new java.math.BigInteger("1442695040888963407"))
            .multiply(new java.math.BigInteger("6364136223846793005").modInverse(wrap))
            .mod(wrap).longValue();
    }

    private static void promise3TooMany() {
        Check.due("1, more of 599", 600, rising(1).more(1, 9, 599));
        Check.unsupportedRefused("1, more of 600", () -> used(1), x -> x.more(1, 9, 600));
        Check.due("598, more of 2", 600, rising(598).more(1, 9, 2));
        Check.unsupportedRefused("598, more of 3", () -> used(598), x -> x.more(1, 9, 3));
        Check.unsupportedRefused("599, more of 2", () -> used(599), x -> x.more(1, 9, 2));
        Check.unsupportedRefused("600, more of 600", () -> used(600), x -> x.more(1, 9, 600));
    }

    // Promise 4: "n numbers come in all (0 .. 600): first, first and step, and so on (running over), each so
    // often behind one another (1 .. 600; the last one perhaps less often): how many THE ROW has.
    // IllegalArgument; UnsupportedOperation (none comes)."

    private static void promise4HowMany() {
        Check.due("line of 0", 7, rising(7).line(1, 1, 0, 1));
        Check.due("line of 0, none", 0, new SortBench().line(1, 1, 0, 1));
        Check.due("line of 0, full", 600, rising(600).line(1, 1, 0, 600));
        Check.due("line of 1", 8, rising(7).line(1, 1, 1, 1));
        Check.due("line of 599", 599, new SortBench().line(1, 1, 599, 1));
        Check.due("line of 600", 600, new SortBench().line(1, 1, 600, 600));
        for (int n : new int[] {-1, 601, LEAST, MOST}) {
            Check.argumentRefused("line of " + n, () -> used(7), x -> x.line(1, 1, n, 1));
        }
    }

    private static void promise4Times() {
        SortBench x = new SortBench();
        x.line(1, 1, 3, 1);
        x.line(4, 1, 4, 2);
        x.line(6, 1, 3, 2);
        x.line(8, 1, 2, 3);
        Check.row("times 1, 2 fully, 2 with the last less often, 3 with but one", x, 1, 2, 3, 4, 4, 5, 5, 6, 6, 7, 8, 8);
        SortBench y = new SortBench();
        y.line(5, 7, 600, 599);
        Check.due("times 599: get(598)", 5, y.get(598));
        Check.due("times 599: get(599)", 12, y.get(599));
        SortBench z = new SortBench();
        z.line(5, 7, 600, 600);
        Check.due("times 600: get(599)", 5, z.get(599));
        for (int times : new int[] {0, -1, 601, LEAST, MOST}) {
            Check.argumentRefused("line, times " + times, () -> used(7), w -> w.line(1, 1, 1, times));
            Check.argumentRefused("line of 0, times " + times, () -> used(7), w -> w.line(1, 1, 0, times));
        }
    }

    private static void promise4RunningOver() {
        SortBench x = new SortBench();
        x.line(MOST - 1, 1, 4, 1);
        x.line(LEAST + 1, -1, 3, 1);
        Check.row("line over both ends", x, MOST - 1, MOST, LEAST, LEAST + 1, LEAST + 1, LEAST, MOST);
        SortBench y = new SortBench();
        y.line(0, LEAST, 3, 1);
        y.line(7, 0, 3, 1);
        y.line(MOST, MOST, 3, 1);
        Check.row("line with the least, no and the greatest step", y, 0, LEAST, 0, 7, 7, 7, MOST, -2, MOST - 2);
        SortBench z = new SortBench();
        z.line(0, MOST, 600, 1);
        // 599 times 2^31 - 1, cut to 32 bits: 599 * 2^31 is 2^31 there, less 599
        Check.due("line(0, greatest, 600, 1): get(599)", LEAST - 599L + (1L << 32), z.get(599));
    }

    private static void promise4TooMany() {
        Check.due("1, line of 599", 600, rising(1).line(1, 1, 599, 1));
        Check.unsupportedRefused("1, line of 600", () -> used(1), x -> x.line(1, 1, 600, 1));
        Check.due("598, line of 2", 600, rising(598).line(1, 1, 2, 600));
        Check.unsupportedRefused("598, line of 3", () -> used(598), x -> x.line(1, 1, 3, 600));
        Check.unsupportedRefused("599, line of 2", () -> used(599), x -> x.line(1, 1, 2, 1));
        Check.unsupportedRefused("600, line of 600", () -> used(600), x -> x.line(1, 1, 600, 600));
    }

    // Promise 5: "The numbers (with their TAGS) at two places are exchanged. IndexOutOfBounds."

    private static void promise5Exchange() {
        SortBench x = Check.of(10, 11, 12);
        x.exchange(0, 2);
        Check.row("exchange(0, 2)", x, 12, 11, 10);
        Check.tags("exchange(0, 2)", x, 2, 1, 0);
        x.exchange(2, 2);
        Check.row("exchange(2, 2)", x, 12, 11, 10);
        Check.tags("exchange(2, 2)", x, 2, 1, 0);
        SortBench one = Check.of(4);
        one.exchange(0, 0);
        Check.row("one, exchange(0, 0)", one, 4);
        SortBench full = rising(600);
        full.exchange(599, 0);
        Check.due("600, exchange(599, 0): get(0)", 599, full.get(0));
        Check.due("600, exchange(599, 0): tag(599)", 0, full.tag(599));
        int[][] none = {{-1, 0}, {0, -1}, {-1, -1}, {3, 0}, {0, 3}, {3, 3}, {2, 4}, {LEAST, 0}, {0, MOST}, {-1, 3}};
        for (int[] p : none) {
            Check.indexRefused("3, exchange(" + p[0] + ", " + p[1] + ")", () -> used(3), y -> exchange(y, p[0], p[1]));
        }
        Check.indexRefused("600, exchange(0, 600)", () -> used(600), y -> exchange(y, 0, 600));
        Check.indexRefused("600, exchange(600, 0)", () -> used(600), y -> exchange(y, 600, 0));
    }

    // Promise 6: "The range from .. to is turned round. IndexOutOfBounds: it is not 0 <= from <= to <= how
    // many there are."

    private static void promise6Turn() {
        int[][] still = {{0, 0}, {0, 1}, {2, 2}, {2, 3}, {3, 4}, {4, 4}};
        for (int[] r : still) {
            SortBench x = Check.of(20, 21, 22, 23);
            x.turn(r[0], r[1]);
            Check.row("turn(" + r[0] + ", " + r[1] + ")", x, 20, 21, 22, 23);
            Check.tags("turn(" + r[0] + ", " + r[1] + ")", x, 0, 1, 2, 3);
        }
        SortBench x = Check.of(20, 21, 22, 23);
        x.turn(0, 4);
        Check.row("turn(0, 4), all", x, 23, 22, 21, 20);
        Check.tags("turn(0, 4), all", x, 3, 2, 1, 0);
        x.turn(2, 4);
        Check.row("turn(2, 4), the last two", x, 23, 22, 20, 21);
        x.turn(0, 3);
        Check.row("turn(0, 3), the middle one stays", x, 20, 22, 23, 21);
        SortBench full = rising(600);
        full.turn(0, 600);
        Check.due("600, turn(0, 600): get(0)", 599, full.get(0));
        Check.due("600, turn(0, 600): tag(599)", 0, full.tag(599));
        full.turn(600, 600);
        int[][] none = {{-1, 0}, {-1, -1}, {-1, 4}, {1, 0}, {4, 3}, {0, 5}, {4, 5}, {5, 5}, {5, 4}, {LEAST, 4}, {0, MOST}};
        for (int[] r : none) {
            Check.indexRefused("4, turn(" + r[0] + ", " + r[1] + ")", () -> used(4), y -> turn(y, r[0], r[1]));
        }
        Check.indexRefused("600, turn(0, 601)", () -> used(600), y -> turn(y, 0, 601));
        Check.indexRefused("600, turn(601, 601)", () -> used(600), y -> turn(y, 601, 601));
    }

    // Promise 10: "The number at a place. IndexOutOfBounds." Promise 11: "The TAG at a place. IndexOutOfBounds."

    private static void promises10And11() {
        SortBench one = Check.of(-8);
        Check.due("one: get(0)", -8, one.get(0));
        Check.due("one: tag(0)", 0, one.tag(0));
        for (int i : new int[] {-1, 1, 599, 600, LEAST, MOST}) {
            Check.indexRefused("one: get(" + i + ")", () -> used(1), x -> x.get(i));
            Check.indexRefused("one: tag(" + i + ")", () -> used(1), x -> x.tag(i));
        }
        for (int i : new int[] {-1, 600, 601, LEAST, MOST}) {
            Check.indexRefused("600: get(" + i + ")", () -> used(600), x -> x.get(i));
            Check.indexRefused("600: tag(" + i + ")", () -> used(600), x -> x.tag(i));
        }
        SortBench emptied = rising(9);
        emptied.clear();
        Check.index("emptied: get(0)", () -> emptied.get(0));
        Check.index("emptied: tag(8)", () -> emptied.tag(8));
        emptied.kill(0, 4);
        Check.due("kill(0, 4): get(3)", 4, emptied.get(3));
        Check.index("kill(0, 4): get(4)", () -> emptied.get(4));
        Check.index("kill(0, 4): tag(4)", () -> emptied.tag(4));
    }

    // Promise 14: "THE ROW is empty; counts stay: how many it had."

    private static void promise14Clear() {
        Check.due("none: clear", 0, new SortBench().clear());
        Check.due("one: clear", 1, rising(1).clear());
        Check.due("600: clear", 600, rising(600).clear());
        SortBench x = used(5);
        x.kill(2, 600);
        long[] before = new long[9];
        for (int what = 0; what <= 8; what++) {
            before[what] = x.count(what);
            Check.due("before clear: count(" + what + ") is above 0", true, before[what] > 0);
        }
        Check.due("clear", 600, x.clear());
        Check.due("clear again", 0, x.clear());
        Check.due("cleared: count(0)", 0, x.count(0));
        for (int what = 1; what <= 8; what++) {
            Check.due("cleared: count(" + what + ")", before[what], x.count(what));
        }
        Check.due("cleared: more of 600", 600, x.more(1, 9, 600));
        Check.due("cleared: tag(0)", 0, x.tag(0));
        Check.due("cleared: tag(599)", 599, x.tag(599));
    }
}
