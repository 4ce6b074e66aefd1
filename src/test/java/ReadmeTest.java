/** README.md tells an example with its answers, and what each call refuses: this keeps both true. */
public final class ReadmeTest {
    public static void main(String[] args) {
        example();
        refusals();
        ofSeveralTheFirst();
        Check.end("ReadmeTest");
    }

    private static void example() {
        SortBench bench = new SortBench();
        Check.due("example: more(7, 1000, 300)", 300, bench.more(7, 1000, 300));
        Check.due("example: is(0)", false, bench.is(0));
        Check.due("example: sort(2)", 2672, bench.sort(2));
        Check.due("example: is(0), sorted", true, bench.is(0));
        Check.due("example: get(0)", 0, bench.get(0));
        Check.due("example: tag(0)", 162, bench.tag(0));
        Check.due("example: kill(2, 300)", 5665, bench.kill(2, 300));
        Check.due("example: count(4)", 1, bench.count(4));
        Check.due("example: count(1)", 8337, bench.count(1));
    }

    private static SortBench three() {
        return Check.of(30, 10, 20);
    }

    private static SortBench full() {
        SortBench x = new SortBench();
        x.line(0, 1, 600, 1);
        return x;
    }

    /** The rows of the table, from the top. */
    private static void refusals() {
        Check.unsupportedRefused("put(1), full", ReadmeTest::full, x -> x.put(1));
        Check.argumentRefused("more(1, 5, 601)", ReadmeTest::three, x -> x.more(1, 5, 601));
        Check.argumentRefused("more(1, 5, -1)", ReadmeTest::three, x -> x.more(1, 5, -1));
        Check.argumentRefused("more(1, 0, 1)", ReadmeTest::three, x -> x.more(1, 0, 1));
        Check.unsupportedRefused("more(1, 5, 598)", ReadmeTest::three, x -> x.more(1, 5, 598));
        Check.argumentRefused("line(1, 1, 601, 1)", ReadmeTest::three, x -> x.line(1, 1, 601, 1));
        Check.argumentRefused("line(1, 1, -1, 1)", ReadmeTest::three, x -> x.line(1, 1, -1, 1));
        Check.argumentRefused("line(1, 1, 1, 0)", ReadmeTest::three, x -> x.line(1, 1, 1, 0));
        Check.argumentRefused("line(1, 1, 1, 601)", ReadmeTest::three, x -> x.line(1, 1, 1, 601));
        Check.unsupportedRefused("line(1, 1, 598, 1)", ReadmeTest::three, x -> x.line(1, 1, 598, 1));
        Check.indexRefused("exchange(0, 3)", ReadmeTest::three, x -> exchange(x, 0, 3));
        Check.indexRefused("exchange(-1, 0)", ReadmeTest::three, x -> exchange(x, -1, 0));
        Check.indexRefused("turn(2, 1)", ReadmeTest::three, x -> turn(x, 2, 1));
        Check.indexRefused("turn(0, 4)", ReadmeTest::three, x -> turn(x, 0, 4));
        Check.argumentRefused("order(4)", ReadmeTest::three, x -> x.order(4));
        Check.argumentRefused("sort(5)", ReadmeTest::three, x -> x.sort(5));
        Check.argumentRefused("kill(5, 1)", ReadmeTest::three, x -> x.kill(5, 1));
        Check.argumentRefused("kill(0, 601)", ReadmeTest::three, x -> x.kill(0, 601));
        Check.indexRefused("get(3)", ReadmeTest::three, x -> x.get(3));
        Check.indexRefused("tag(3)", ReadmeTest::three, x -> x.tag(3));
        Check.argumentRefused("is(3)", ReadmeTest::three, x -> x.is(3) ? 1 : 0);
        Check.argumentRefused("count(9)", ReadmeTest::three, x -> x.count(9));
    }

    private static void ofSeveralTheFirst() {
        Check.argumentRefused("more(1, 0, 1), full", ReadmeTest::full, x -> x.more(1, 0, 1));
        Check.argumentRefused("line(1, 1, 1, 0), full", ReadmeTest::full, x -> x.line(1, 1, 1, 0));
    }

    private static long exchange(SortBench x, int i, int j) {
        x.exchange(i, j);
        return 0;
    }

    private static long turn(SortBench x, int from, int to) {
        x.turn(from, to);
        return 0;
    }
}
