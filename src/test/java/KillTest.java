/** Promise 9: the adversary. */
public final class KillTest {
    public static void main(String[] args) {
        workedOut();
        rowIsReplaced();
        settledForGood();
        edges();
        wrongInputs();
        Check.end("KillTest");
    }

    private static void workedOut() {
        SortBench x = new SortBench();
        // 1 < 0 settles 0, 2 < 1 settles 1, 2 stays OPEN
        Check.due("kill(0, 3)", 2, x.kill(0, 3));
        Check.row("kill(0, 3)", x, 0, 1, 3);
        // 1 < 2 settles 2; 0 < 1 settles 1, for 1 is the CANDIDATE but not x; then 2 < 1
        Check.due("kill(1, 3)", 3, x.kill(1, 3));
        Check.row("kill(1, 3)", x, 3, 1, 0);
        Check.tags("kill(1, 3)", x, 0, 1, 2);
        Check.due("kill(2, 3)", 2, x.kill(2, 3));
        Check.row("kill(2, 3)", x, 0, 1, 3);
        Check.due("kill(3, 3)", 2, x.kill(3, 3));
        Check.row("kill(3, 3)", x, 0, 1, 3);
        Check.due("kill(4, 3)", 2, x.kill(4, 3));
        Check.row("kill(4, 3)", x, 0, 1, 3);
        Check.due("kill: count(1)", 11, x.count(1));
        Check.due("kill: count(2)", 2, x.count(2));
        Check.due("kill: count(6)", 1, x.count(6));
        // 4 < 0 settles 0, 4 is the CANDIDATE; 1 < 0 makes 1 the CANDIDATE, 2 < 1 settles 1, and so on
        Check.due("kill(4, 5)", 5, x.kill(4, 5));
        Check.row("kill(4, 5)", x, 0, 1, 2, 3, 5);
    }

    private static void rowIsReplaced() {
        SortBench x = Check.of(7, 6, 5, 4, 3, 2, 1);
        x.sort(0);
        x.order(2);
        Check.due("kill(0, 4) in order 2", 3, x.kill(0, 4));
        Check.row("kill(0, 4)", x, 0, 1, 2, 4);
        Check.tags("kill(0, 4)", x, 0, 1, 2, 3);
        Check.due("kill: count(8)", 2, x.count(8));
        Check.due("kill: put(9)", 5, x.put(9));
        Check.due("kill: tag(4)", 4, x.tag(4));
    }

    /** The answers agree with the numbers that come out, so the same way takes as long again. */
    private static void settledForGood() {
        for (int way = 0; way <= 4; way++) {
            for (int n : new int[] {2, 16, 23, 24, 25, 128, 129, 200, 333, 600}) {
                for (int from = 0; from < n; from += 200) {
                    settledForGood(way, n, from, Math.min(n, from + 200));
                }
            }
        }
        Check.due("kill(2, 600) takes longer than a row by chance", true,
            new SortBench().kill(2, 600) > 2 * chance());
    }

    /** Looks at the places from .. to only, because an object is promised for no more than 512 calls. */
    private static void settledForGood(int way, int n, int from, int to) {
        SortBench x = new SortBench();
        int took = x.kill(way, n);
        for (int i = from; i < to; i++) {
            Check.due("kill(" + way + ", " + n + "): tag(" + i + ")", i, x.tag(i));
        }
        Check.due("kill(" + way + ", " + n + "), then sort", took, x.sort(way));
        for (int i = from; i < to; i++) {
            Check.due("kill(" + way + ", " + n + "), sorted: get(" + i + ")", i == n - 1 ? n : i, x.get(i));
        }
    }

    private static int chance() {
        SortBench x = new SortBench();
        x.more(1, Integer.MAX_VALUE, 600);
        return x.sort(2);
    }

    private static void edges() {
        SortBench x = Check.of(1, 2, 3);
        for (int way = 0; way <= 4; way++) {
            Check.due("kill(" + way + ", 0)", 0, x.kill(way, 0));
            Check.row("kill(" + way + ", 0)", x);
            Check.due("kill(" + way + ", 1)", 0, x.kill(way, 1));
            Check.row("kill(" + way + ", 1)", x, 1);
            Check.due("kill(" + way + ", 1): is(2)", true, x.is(2));
        }
        Check.due("kill(3, 1) piles one up: count(6)", 1, x.count(6));
        Check.due("kill(3, 600)", 599, x.kill(3, 600));
        Check.unsupported("put behind 600", () -> x.put(1));
    }

    private static void wrongInputs() {
        SortBench x = Check.of(2, 1);
        x.sort(0);
        int[][] wrong = {{-1, 3}, {5, 3}, {0, -1}, {0, 601}, {Integer.MIN_VALUE, Integer.MAX_VALUE}, {7, -7}};
        for (int[] w : wrong) {
            Check.argument("kill(" + w[0] + ", " + w[1] + ")", () -> x.kill(w[0], w[1]));
        }
        Check.row("kill refused", x, 1, 2);
        Check.tags("kill refused", x, 1, 0);
        Check.due("kill refused: count(2)", 1, x.count(2));
    }
}
