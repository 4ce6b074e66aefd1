/** Promise 8: the five ways, with counts that were worked out by hand from the document. */
public final class SortTest {
    public static void main(String[] args) {
        fewNumbers();
        threeNumbers();
        quickParts();
        quickSendsEqualOnesLeft();
        quickIsPartlyPatient();
        quickFalls();
        runsAreFound();
        runsAreMerged();
        stepsAreLong();
        everyWaySorts();
        wrongWays();
        Check.end("SortTest");
    }

    private static void fewNumbers() {
        for (int way = 0; way <= 4; way++) {
            Check.due("none: sort(" + way + ")", 0, Check.of().sort(way));
            Check.due("one: sort(" + way + ")", 0, Check.of(5).sort(way));
            SortBench x = Check.of(2, 1);
            Check.due("two: sort(" + way + ")", 1, x.sort(way));
            Check.row("two, way " + way, x, 1, 2);
            Check.tags("two, way " + way, x, 1, 0);
        }
    }

    private static void threeNumbers() {
        int[] falling = {3, 3, 3, 2, 3};
        int[] mixed = {3, 3, 3, 4, 3};
        int[] rising = {2, 3, 2, 2, 2};
        for (int way = 0; way <= 4; way++) {
            Check.due("3 2 1: sort(" + way + ")", falling[way], Check.of(3, 2, 1).sort(way));
            Check.due("3 1 2: sort(" + way + ")", mixed[way], Check.of(3, 1, 2).sort(way));
            Check.due("1 2 3: sort(" + way + ")", rising[way], Check.of(1, 2, 3).sort(way));
        }
    }

    private static void quickParts() {
        SortBench x = new SortBench();
        x.line(0, 1, 23, 1);
        Check.due("23 rising: sort(2)", 22, x.sort(2));
        Check.due("23 rising: count(5)", 0, x.count(5));
        x.put(23);
        // THREE asks 3; 13 till f is 13, 12 till l is 12: it WAS PARTED; PARTLY asks 11 and 10
        Check.due("24 rising: sort(2)", 49, x.sort(2));
        Check.due("24 rising: count(5)", 1, x.count(5));
    }

    private static void quickSendsEqualOnesLeft() {
        SortBench x = new SortBench();
        x.line(5, 0, 24, 1);
        // THREE asks 3. p is a[0]: 1 till f is 1, all 23 down to l = 1. L is 0, below 3: BUDGET 3.
        // The left range is empty, the right one of 23 is UNGUARDED: 22.
        Check.due("24 alike: sort(2)", 49, x.sort(2));
        Check.due("24 alike: count(5)", 1, x.count(5));
        x.clear();
        x.line(5, 0, 25, 1);
        // 3; 1 and 24; then the range 1 .. 25 of 24: 3, 1 of a[0] < a[1], it goes left: 1 till l is 24,
        // 23 till f is 24; nothing is left.
        Check.due("25 alike: sort(2)", 56, x.sort(2));
        Check.due("25 alike: count(5)", 2, x.count(5));
    }

    private static void quickIsPartlyPatient() {
        // 24 rising, but 11 stands k places too low: the k behind it go down by one, each asking once more.
        // With k = 9 the sum is 9 behind the last one, so nothing is given up. With k = 10 it is 9 before
        // place 11: PARTLY asked 1 + 9 * 2, then INSERTING asks 10 + 2, and UNGUARDED 10 on the right.
        int[] due = {49 + 8, 49 + 9, 3 + 13 + 12 + 19 + 12 + 10};
        for (int k = 8; k <= 10; k++) {
            SortBench x = new SortBench();
            x.line(0, 1, 24, 1);
            for (int j = 11; j > 11 - k; j--) {
                x.exchange(j, j - 1);
            }
            Check.due("11 is " + k + " places too low: sort(2)", due[k - 8], x.sort(2));
            Check.due("11 is " + k + " places too low: is(0)", true, x.is(0));
        }
    }

    private static void quickFalls() {
        SortBench x = new SortBench();
        x.kill(2, 600);
        long falls = x.count(4);
        Check.due("kill(2, 600) makes QUICK fall", true, falls > 0);
        x.sort(2);
        Check.due("sort(2) of what kill left: count(4)", falls, x.count(4));
        Check.due("sort(2) of what kill left: count(3)", 2 * falls, x.count(3));
        Check.due("sort(2) of what kill left: is(0)", true, x.is(0));
    }

    private static void runsAreFound() {
        SortBench x = new SortBench();
        x.line(600, -1, 600, 1);
        Check.due("600 falling: sort(3)", 599, x.sort(3));
        Check.due("600 falling: count(6)", 1, x.count(6));
        Check.due("600 falling: count(7)", 0, x.count(7));
        Check.due("600 falling: get(0)", 1, x.get(0));
        SortBench y = new SortBench();
        y.line(9, 0, 17, 1);
        Check.due("17 alike: sort(3)", 16, y.sort(3));
        Check.due("17 alike: count(6)", 1, y.count(6));
        Check.due("17 alike: is(1)", true, y.is(1));
        SortBench z = Check.of(1, 2, 0, 3);
        // 1 2 rise, 0 does not: 2; 0 goes before 2 and 1: 2; 3 goes behind 1 and 2: 2
        Check.due("1 2 0 3: sort(3)", 6, z.sort(3));
        Check.tags("1 2 0 3", z, 2, 0, 1, 3);
    }

    private static void runsAreMerged() {
        SortBench x = new SortBench();
        x.line(0, 1, 16, 1);
        x.line(0, 1, 16, 1);
        // 15, and 1 that ends the run; 15; MERGED: 0 0 1 1 ..: all but the last one are asked for: 31
        Check.due("two runs of 16: sort(3)", 62, x.sort(3));
        Check.due("two runs of 16: count(6)", 2, x.count(6));
        Check.due("two runs of 16: count(7)", 1, x.count(7));
        Check.due("two runs of 16: is(1)", true, x.is(1));
        SortBench y = new SortBench();
        y.line(0, 1, 40, 1);
        y.line(-100, 1, 16, 1);
        // 40 is above 16: they are MERGED at the end, 16 right ones going first
        Check.due("runs of 40 and 16: sort(3)", 39 + 1 + 15 + 16, y.sort(3));
        Check.due("runs of 40 and 16: count(7)", 1, y.count(7));
    }

    private static void stepsAreLong() {
        SortBench x = new SortBench();
        x.line(0, 1, 5, 1);
        Check.due("5 rising: sort(4)", 1 + 4, x.sort(4));
        x.clear();
        x.line(0, 1, 600, 1);
        int all = (600 - 301) + (600 - 132) + (600 - 57) + (600 - 23) + (600 - 10) + (600 - 4) + (600 - 1);
        Check.due("600 rising: sort(4)", all, x.sort(4));
        SortBench y = Check.of(4, 3, 2, 1, 0);
        // g = 4: 1; g = 1: 0 3 2 1 4: 1, 2, 3, 1
        Check.due("5 falling: sort(4)", 8, y.sort(4));
        Check.row("5 falling, way 4", y, 0, 1, 2, 3, 4);
    }

    private static void everyWaySorts() {
        for (int way = 0; way <= 4; way++) {
            for (int o = 0; o <= 3; o++) {
                SortBench x = new SortBench();
                x.order(o);
                x.more(way * 4 + o, 40, 110);
                x.put(Integer.MIN_VALUE);
                x.put(Integer.MAX_VALUE);
                long sum = sum(x);
                long took = x.sort(way);
                Check.due("way " + way + ", order " + o + ": is(0)", true, x.is(0));
                Check.due("way " + way + ", order " + o + ": the sum", sum, sum(x));
                Check.due("way " + way + ", order " + o + ": count(2)", took, x.count(2));
                boolean stable = way == 0 || way == 3;
                Check.due("way " + way + ", order " + o + ": is(1)", stable, x.is(1));
            }
        }
    }

    private static long sum(SortBench x) {
        long sum = 0;
        long n = x.count(0);
        for (int i = 0; i < n; i++) {
            sum += x.get(i) * (x.tag(i) + 1L);
        }
        return sum;
    }

    private static void wrongWays() {
        SortBench x = Check.of(2, 1);
        for (int way : new int[] {-1, 5, Integer.MIN_VALUE, Integer.MAX_VALUE}) {
            Check.argument("sort(" + way + ")", () -> x.sort(way));
        }
        Check.row("sort refused", x, 2, 1);
        Check.due("sort refused: count(1)", 0, x.count(1));
    }
}
