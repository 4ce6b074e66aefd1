/**
 * The boundary cases of INSERTING, HEAP, RUNS, STEPS and AN ADVERSARY, sentence by sentence, with COMPARISONS
 * that were counted by hand from the document. QUICK has a test of its own, EdgeQuickTest.
 */
public final class EdgeWayTest {
    public static void main(String[] args) {
        insertingFew();
        insertingStopsAtTheBegin();
        insertingStopsAtAlike();
        heapFew();
        heapWithOneChild();
        heapEndsAtAlike();
        heapByKeys();
        runsNoneAndOfOne();
        runsFallOnlyIfLess();
        runsRiseIfNotLess();
        runsFewerThan16();
        runsAllThatAreLeft();
        runsByHalves();
        pileOfTwo();
        pileOfThree();
        pileOfThreeLesserOne();
        pileOfFour();
        pileAtTheEnd();
        mergedAlike();
        mergedAsLongAsBothHaveSome();
        stepsFromEachGap();
        stepsWhileThereIsAGap();
        stepsStopAtAlike();
        adversaryOfFew();
        adversarySettlesTheCandidate();
        adversaryOpenIsN();
        Check.end("EdgeWayTest");
    }

    private static void took(String when, int want, int way, SortBench x) {
        Check.due(when + ": sort(" + way + ")", want, x.sort(way));
        Check.due(when + ": is(0)", true, x.is(0));
    }

    private static SortBench line(int first, int step, int n) {
        SortBench x = new SortBench();
        x.line(first, step, n, 1);
        return x;
    }

    // "INSERTING (way 0) in b .. e: for i = b + 1 to e - 1: if a[i] < a[i - 1]: .. again as long as j > b and
    // x < a[j - 1]"

    private static void insertingFew() {
        took("none", 0, 0, Check.of());
        took("one", 0, 0, Check.of(7));
        took("1 2", 1, 0, Check.of(1, 2));
        took("2 1", 1, 0, Check.of(2, 1));
        took("600 rising", 599, 0, line(0, 1, 600));
    }

    private static void insertingStopsAtTheBegin() {
        // 1; then 1 < 3, 1 < 2, and j is b
        took("2 3 1", 3, 0, Check.of(2, 3, 1));
        // 1; then 2 < 3, not 2 < 1, and j is b + 1
        took("1 3 2", 3, 0, Check.of(1, 3, 2));
        took("600 falling", 600 * 599 / 2, 0, line(0, -1, 600));
    }

    private static void insertingStopsAtAlike() {
        SortBench x = Check.of(2, 3, 2);
        took("2 3 2", 3, 0, x);
        Check.tags("2 3 2, way 0", x, 0, 2, 1);
        SortBench y = Check.of(2, 2, 2);
        took("2 2 2", 2, 0, y);
        Check.tags("2 2 2, way 0", y, 0, 1, 2);
    }

    // "HEAP (1) in b .. e, of n places: for i = n / 2 - 1 down to 0 SINK i of n; then for k = n - 1 down to 1 ..
    // as long as c = 2 i + 1 is below m: if c + 1 is below m and a[c] < a[c + 1], c is one more; if not x < a[c],
    // it ends"

    private static void heapFew() {
        took("none", 0, 1, Check.of());
        took("one", 0, 1, Check.of(7));
        // SINK 0 of 2 asks once, SINK 0 of 1 nothing
        took("1 2", 1, 1, Check.of(1, 2));
        took("2 1", 1, 1, Check.of(2, 1));
        // SINK 0 of 3: 2 < 3, 1 < 3; SINK 0 of 2: 1
        took("1 2 3", 3, 1, Check.of(1, 2, 3));
        took("3 2 1", 3, 1, Check.of(3, 2, 1));
    }

    /** 4 and 6 have a last child alone: SINK of its parent asks once; with 5 and 7 it asks twice. */
    private static void heapWithOneChild() {
        took("4 alike", 1 + 2 + 2 + 1, 1, line(5, 0, 4));
        took("5 alike", 2 + 2 + 2 + 2 + 1, 1, line(5, 0, 5));
        took("6 alike", 1 + 2 + 2 + 2 + 2 + 2 + 1, 1, line(5, 0, 6));
        took("7 alike", 2 + 2 + 2 + 2 + 2 + 2 + 2 + 1, 1, line(5, 0, 7));
        // those with two children: 2 each; one in the row of 600 has one; then k = 599 .. 3: 2 each, k = 2: 1
        took("600 alike", 299 * 2 + 1 + 597 * 2 + 1, 1, line(5, 0, 600));
    }

    /** Nothing sinks, so only the exchanges of 0 and k move: 3 1 2 0, then 2 1 3 0, then 1 2 3 0. */
    private static void heapEndsAtAlike() {
        SortBench x = line(5, 0, 4);
        x.sort(1);
        Check.tags("4 alike, way 1", x, 1, 2, 3, 0);
        // of two children that are alike the first goes up: 2 (TAG 1), and the last is 2 (TAG 1)
        SortBench y = Check.of(1, 2, 2);
        took("1 2 2", 3, 1, y);
        Check.tags("1 2 2, way 1", y, 0, 2, 1);
    }

    private static void heapByKeys() {
        SortBench x = Check.of(256, 1, 511);
        x.order(2);
        // KEYS 0 1 255 are as 1 2 3
        took("256 1 511 in ORDER 2", 3, 1, x);
        Check.row("256 1 511 in ORDER 2", x, 256, 1, 511);
    }

    // "RUNS (3): from place b on: a RUN of one, if that is the last; else, if a[b + 1] < a[b]: as many as each are
    // less than the one before (asked one by one, up to the first that is not), turned round; else as many as each
    // are not less than the one before"

    private static void runs(String when, SortBench x, long asked, long runs, long merged) {
        took(when, (int) asked, 3, x);
        Check.due(when + ": count(6)", runs, x.count(6));
        Check.due(when + ": count(7)", merged, x.count(7));
        Check.due(when + ": is(1)", true, x.is(1));
    }

    private static void runsNoneAndOfOne() {
        runs("none", Check.of(), 0, 0, 0);
        runs("one", Check.of(7), 0, 1, 0);
        runs("1 2", Check.of(1, 2), 1, 1, 0);
        runs("2 1", Check.of(2, 1), 1, 1, 0);
        SortBench x = line(0, 1, 16);
        x.put(-1);
        // 15, and 1 that ends it; the last is a RUN of one; MERGED: it goes first, 1
        runs("16 rising and a lesser last one", x, 17, 2, 1);
        SortBench y = line(0, 1, 17);
        runs("17 rising", y, 16, 1, 0);
    }

    private static void runsFallOnlyIfLess() {
        SortBench x = Check.of(3, 2, 2, 1);
        // 2 < 3, not 2 < 2: 2 3; then 2: not before 2, 2 asked; then 1: before 2 and 2, 2 asked
        runs("3 2 2 1", x, 6, 1, 0);
        Check.tags("3 2 2 1, way 3", x, 3, 1, 2, 0);
        SortBench y = line(0, -1, 600);
        runs("600 falling", y, 599, 1, 0);
        Check.due("600 falling: tag(0)", 599, y.tag(0));
        SortBench z = line(16, -1, 16);
        z.put(1);
        // 16 falling, and the 17th is alike with the last of them: 15 and 1; then not 1 < 1 (the RUN's first), and
        // 1 < 2: two asked till the right one has gone
        runs("16 falling and one alike", z, 16 + 2, 2, 1);
        Check.due("16 falling and one alike: tag(0)", 15, z.tag(0));
        Check.due("16 falling and one alike: tag(1)", 16, z.tag(1));
    }

    private static void runsRiseIfNotLess() {
        runs("1 1", Check.of(1, 1), 1, 1, 0);
        runs("1 1 2 2", Check.of(1, 1, 2, 2), 3, 1, 0);
        runs("600 alike", line(5, 0, 600), 599, 1, 0);
        // 2 < 1 not, 1 < 2: 2; then 1 goes behind 1: x < 2, not x < 1
        SortBench x = Check.of(1, 2, 1);
        runs("1 2 1", x, 4, 1, 0);
        Check.tags("1 2 1, way 3", x, 0, 2, 1);
    }

    // "If it has fewer than 16: it becomes one of 16, or all that are left"

    private static void runsFewerThan16() {
        SortBench x = line(0, 1, 15);
        x.put(-1);
        // 14, and 1 that ends it; by halves in 15: c = 7, 3, 1, 0
        runs("15 rising and a lesser one", x, 15 + 4, 1, 0);
        SortBench y = line(0, 1, 14);
        y.put(-1);
        y.put(-2);
        // 13 and 1; in 14: c = 7, 3, 1, 0; in 15: c = 7, 3, 1, 0
        runs("14 rising and two lesser ones", y, 14 + 4 + 4, 1, 0);
        SortBench z = line(0, 1, 15);
        z.put(-1);
        z.put(20);
        // it becomes one of 16, not of 17, though 20 is not less: 20 is a RUN of one, MERGED after 16 asked
        runs("15 rising, a lesser and a greater one", z, 15 + 4 + 16, 2, 1);
        SortBench w = line(0, 1, 16);
        w.line(-20, 1, 16, 1);
        // 15 and 1, 15; MERGED: all 16 on the right go first
        runs("16 rising twice", w, 16 + 15 + 16, 2, 1);
    }

    private static void runsAllThatAreLeft() {
        SortBench x = line(0, 1, 14);
        x.put(-1);
        // all 15 that there are
        runs("15, of which 14 rise", x, 14 + 4, 1, 0);
        SortBench y = line(0, 1, 16);
        y.put(-1);
        y.put(-2);
        // 15 and 1; the last two fall: 1; MERGED: both go first: 2
        runs("16 rising and two falling", y, 16 + 1 + 2, 2, 1);
        SortBench z = line(0, 1, 16);
        z.put(-3);
        z.put(-2);
        z.put(-4);
        // 15 and 1; -3 -2 rise, -4 does not: 2; by halves in 2: c = 1, 0 (from place 16: 17, 16): 2; MERGED: 3
        runs("16 rising and a RUN of all that are left", z, 16 + 2 + 2 + 3, 2, 1);
    }

    // "low is b, high its place; as long as low < high, with c = (low + high) / 2: x < a[c]: high is c, else low
    // is c + 1"

    private static void runsByHalves() {
        // 0 2 4 rise, x does not: 3; low 0, high 3: c = 1, then c = 0 or 2
        int[] x = {-1, 0, 1, 2, 3};
        int[][] tags = {{3, 0, 1, 2}, {0, 3, 1, 2}, {0, 3, 1, 2}, {0, 1, 3, 2}, {0, 1, 3, 2}};
        for (int k = 0; k < x.length; k++) {
            SortBench bench = Check.of(0, 2, 4, x[k]);
            took("0 2 4 " + x[k], 3 + 2, 3, bench);
            Check.tags("0 2 4 " + x[k] + ", way 3", bench, tags[k]);
        }
        // 0 2 rise, x does not: 2; low 0, high 2: c = 1, then c = 0
        took("0 2 -1", 2 + 2, 3, Check.of(0, 2, -1));
        // 2 0 fall, 1 does not: 2; in 0 2: c = 1 (1 < 2), then c = 0
        took("2 0 1", 2 + 2, 3, Check.of(2, 0, 1));
        // and one that is not less than the last: c = 1 alone
        took("2 0 2", 2 + 1, 3, Check.of(2, 0, 2));
    }

    /**
     * RUNS of these lengths (16 or more each), each one below those before it, are found with one COMPARISON less
     * than there are numbers; and when two are MERGED, all of the right one go first: as many COMPARISONS as it has.
     */
    private static void pile(int merging, int... lengths) {
        SortBench x = new SortBench();
        StringBuilder told = new StringBuilder("RUNS of");
        int base = 0;
        for (int length : lengths) {
            base -= 1000;
            x.line(base, 1, length, 1);
            told.append(' ').append(length);
        }
        runs(told.toString(), x, x.count(0) - 1 + merging, lengths.length, lengths.length - 1);
    }

    // "as long as there are two: if w[t - 2] is at most w[t - 1] + w[t] (there being three), or w[t - 3] at most
    // w[t - 2] + w[t - 1] (four): t - 1 is MERGED with the lesser of t - 2 and t (with t, if they are alike); else,
    // if w[t - 1] is at most w[t], these two; else it ends."

    private static void pileOfTwo() {
        pile(16, 16, 16);
        pile(17, 16, 17);
        pile(16, 17, 16);
        // 16 16 become 32 at once, then 32 16 stay till the end
        pile(16 + 16, 16, 16, 16);
        // 16 17 become 33
        pile(17 + 16, 16, 17, 16);
        // 17 16 stay; 17 16 16: 17 is at most 32: 16 and 16, then 17 and 32
        pile(16 + 32, 17, 16, 16);
        // with three, of which the first is large: 16 and 16 become 32; 100 32 20 stay: 32 and 20, 100 and 52
        pile(16 + 20 + 52, 100, 16, 16, 20);
        // 100 17 16 stay; then 20: 17 is at most 36: 16 goes with 17, the lesser of 17 and 20; 100 33 20 stay
        pile(16 + 20 + 53, 100, 17, 16, 20);
    }

    private static void pileOfThree() {
        // 33 is at most 17 + 16: 17 and 16, then 33 and 33; then 66 16
        pile(16 + 33 + 16, 33, 17, 16, 16);
        // 34 is not: 34 17 16 stay; then 16: 17 is at most 32: 16 and 16; 34 17 32: 17 and 32; 34 and 49
        pile(16 + 32 + 49, 34, 17, 16, 16);
        // 32 is at most 33
        pile(16 + 33 + 16, 32, 17, 16, 16);
    }

    private static void pileOfThreeLesserOne() {
        // 20 and 20 are alike: 16 goes with the last
        pile(20 + 36, 20, 16, 20);
        // 20 is the lesser: 20 and 16, then 36 21 stay till the end
        pile(16 + 21, 20, 16, 21);
        // 19 is the lesser: 16 and 19, then 20 and 35
        pile(19 + 35, 20, 16, 19);
    }

    /** 25 20 30: 20 goes with 25. On .. 80 45 30 the first condition does not hold: 80 is above 75. */
    private static void pileOfFour() {
        // 125 is at most 80 + 45: 45 goes with 30; 125 80 75: 80 with 75; 125 with 155; 280 16
        pile(20 + 30 + 75 + 155 + 16, 125, 80, 25, 20, 30, 16);
        // 124 likewise
        pile(20 + 30 + 75 + 155 + 16, 124, 80, 25, 20, 30, 16);
        // 126 is not: all stay; then 16: 45 is at most 46: 30 and 16; 80 45 46: 45 and 46; 80 and 91; 126 and 171
        pile(20 + 16 + 46 + 91 + 171, 126, 80, 25, 20, 30, 16);
    }

    // "At the end, as long as there are two: as in the first case, if there are three and w[t - 2] < w[t], t - 2 and
    // t - 1; else t - 1 and t."

    private static void pileAtTheEnd() {
        pile(0, 16);
        pile(16, 40, 16);
        // 60 20 16 stay: 20 and 16, then 60 and 36
        pile(16 + 36, 60, 20, 16);
        // 200 100 50 20 stay: 50 and 20, 100 and 70, 200 and 170
        pile(20 + 70 + 170, 200, 100, 50, 20);
        // 126 80 45 30, as above, stay: 45 and 30, 80 and 75, 126 and 155
        pile(20 + 30 + 75 + 155, 126, 80, 25, 20, 30);
    }

    // "MERGED: as long as both have some: the right one's first y goes, if y < the left one's first, else that."

    private static void mergedAlike() {
        SortBench x = line(0, 1, 16);
        x.line(14, 1, 16, 1);
        // 15 and 1, 15; MERGED: 0 .. 13 go, 14 asked; left 14 goes before right 14, that before 15, left 15 before
        // right 15: 3 asked, and the left one has none
        runs("0 .. 15, 14 .. 29", x, 16 + 15 + 14 + 3, 2, 1);
        Check.due("0 .. 15, 14 .. 29: tag(14)", 14, x.tag(14));
        Check.due("0 .. 15, 14 .. 29: tag(15)", 16, x.tag(15));
        Check.due("0 .. 15, 14 .. 29: tag(16)", 15, x.tag(16));
        Check.due("0 .. 15, 14 .. 29: tag(17)", 17, x.tag(17));
    }

    private static void mergedAsLongAsBothHaveSome() {
        SortBench x = line(0, 1, 16);
        x.line(-16, 1, 16, 1);
        // the right one goes first: 16 asked, none for the left one
        runs("0 .. 15, -16 .. -1", x, 16 + 15 + 16, 2, 1);
        SortBench y = line(0, 2, 16);
        y.line(29, 2, 16, 1);
        // 0, 2 .. 28: 15 asked; 29 < 30: 1; not 31 < 30: 1
        runs("0 .. 30, 29 .. 59", y, 16 + 15 + 17, 2, 1);
        SortBench z = line(0, 2, 16);
        z.line(1, 2, 16, 1);
        // one after the other, and the left one has none when but the last is left
        runs("0 .. 30, 1 .. 31", z, 16 + 15 + 31, 2, 1);
    }

    // "STEPS (4): for g = 301, 132, 57, 23, 10, 4, 1: for i = g to n - 1: .. as long as j is g or more and
    // x < a[j - g]"

    private static void stepsFromEachGap() {
        int[] gaps = {301, 132, 57, 23, 10, 4, 1};
        for (int gap : gaps) {
            for (int n = gap - 1; n <= gap + 1; n++) {
                int asked = 0;
                for (int g : gaps) {
                    asked += Math.max(0, n - g);
                }
                took(n + " rising", asked, 4, line(0, 1, n));
            }
        }
        took("none", 0, 4, Check.of());
        took("one", 0, 4, Check.of(1));
        took("2 1", 1, 4, Check.of(2, 1));
        took("4 rising", 3, 4, line(0, 1, 4));
        took("5 rising", 1 + 4, 4, line(0, 1, 5));
        took("301 rising", 169 + 244 + 278 + 291 + 297 + 300, 4, line(0, 1, 301));
        took("302 rising", 1 + 170 + 245 + 279 + 292 + 298 + 301, 4, line(0, 1, 302));
    }

    private static void stepsWhileThereIsAGap() {
        SortBench x = line(0, 1, 302);
        x.exchange(0, 301);
        // the only step of 301 puts both right, and j is 0
        took("302 rising, first and last exchanged", 1 + 170 + 245 + 279 + 292 + 298 + 301, 4, x);
        SortBench y = Check.of(1, 2, 3, 4, 5, 6, 7, 8, 0);
        // g = 4: 4; 0 < 5, 0 < 1: 2; 0 2 3 4 1 6 7 8 5: 3, 4, 3, 4
        took("1 .. 8 0", 4 + 2 + 3 + 4 + 3 + 4, 4, y);
        SortBench z = Check.of(0, 2, 3, 4, 6, 5, 7, 8, 1);
        // g = 4: 4; 1 < 6, not 1 < 0: 2; 0 2 3 4 1 5 7 8 6: 3, 4, 1, 1, 1, 3
        took("0 2 3 4 6 5 7 8 1", 4 + 2 + 3 + 4 + 1 + 1 + 1 + 3, 4, z);
    }

    private static void stepsStopAtAlike() {
        SortBench x = line(5, 0, 5);
        took("5 alike", 1 + 4, 4, x);
        Check.tags("5 alike, way 4", x, 0, 1, 2, 3, 4);
        SortBench y = Check.of(2, 3, 2);
        took("2 3 2", 3, 4, y);
        Check.tags("2 3 2, way 4", y, 0, 2, 1);
    }

    // "AN ADVERSARY of n: things 0 .. n - 1 in this order, all OPEN, no CANDIDATE, and a number S = 0. .. if both are
    // OPEN (also if they are one): the CANDIDATE, if it is x, else y, is settled as S, and S is one more; then, if x
    // is OPEN, it is the CANDIDATE, else, if y is, that. .. thing by thing its number, n for one that is OPEN."

    private static void killed(int way, int n, int asked, int... numbers) {
        SortBench x = new SortBench();
        Check.due("kill(" + way + ", " + n + ")", asked, x.kill(way, n));
        Check.row("kill(" + way + ", " + n + ")", x, numbers);
        for (int i = 0; i < n; i++) {
            Check.due("kill(" + way + ", " + n + "): tag(" + i + ")", i, x.tag(i));
        }
    }

    private static void adversaryOfFew() {
        for (int way = 0; way <= 4; way++) {
            killed(way, 0, 0);
            killed(way, 1, 0, 1);
        }
        // 1 < 0 is asked: 0 is y and is settled; but HEAP asks 0 < 1
        killed(0, 2, 1, 0, 2);
        killed(1, 2, 1, 2, 0);
        killed(2, 2, 1, 0, 2);
        killed(3, 2, 1, 0, 2);
        killed(4, 2, 1, 0, 2);
    }

    private static void adversarySettlesTheCandidate() {
        // SINK 1 of 4: 1 < 3 settles 3, the CANDIDATE is 1. SINK 0 of 4: 1 < 2: the CANDIDATE is x and is settled, y
        // is OPEN and is it now; 0 < 2: the CANDIDATE is y, not x, and y is settled. Then 2, and 1.
        killed(1, 4, 1 + 2 + 2 + 1, 4, 1, 2, 0);
        // 4 < 0 settles 0, the CANDIDATE is 4; 1 < 0: x is OPEN, so it is 1; 2 < 1 settles 1, and so on
        killed(4, 5, 5, 0, 1, 2, 3, 5);
        // 2 < 1 settles 1 as y, and so on up the row
        killed(0, 5, 4, 0, 1, 2, 3, 5);
        killed(3, 17, 16, 0, 1, 2, 3, 4, 5, 6, 7, 8, 9, 10, 11, 12, 13, 14, 15, 17);
    }

    private static void adversaryOpenIsN() {
        for (int way = 0; way <= 4; way++) {
            for (int n : new int[] {2, 23, 24, 25, 128, 129, 199}) {
                SortBench x = new SortBench();
                int took = x.kill(way, n);
                boolean[] seen = new boolean[n + 1];
                for (int i = 0; i < n; i++) {
                    seen[x.get(i)] = true;
                }
                for (int number = 0; number <= n; number++) {
                    Check.due("kill(" + way + ", " + n + ") gives " + number, number != n - 1, seen[number]);
                }
                // the answers agree with the numbers, so the way takes as long again
                Check.due("kill(" + way + ", " + n + "), sort(" + way + ")", took, x.sort(way));
            }
        }
    }
}
