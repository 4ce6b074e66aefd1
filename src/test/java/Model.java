import java.util.ArrayList;
import java.util.Collections;
import java.util.List;

/**
 * A second writing of the document, for ModelTest: with lists, with recursion, without guards, and
 * after the well-known pdqsort, TimSort and antiqsort rather than after the program.
 */
final class Model {
    private static final class Thing {
        int number;
        int tag;
        boolean open;

        Thing(int number, int tag) {
            this.number = number;
            this.tag = tag;
        }
    }

    private final List<Thing> row = new ArrayList<>();
    private int order = 0;
    private boolean hostile = false;
    private Thing candidate = null;
    private int solid = 0;
    private long asked = 0;
    private long latestAsked = 0;
    private long falls = 0;
    private long latestFalls = 0;
    private long parted = 0;
    private long runs = 0;
    private long merges = 0;
    private final List<String> partings = new ArrayList<>();

    int put(int v) {
        room(1);
        row.add(new Thing(v, row.size()));
        return row.size();
    }

    int more(long seed, int span, int n) {
        argument(span >= 1 && n >= 0 && n <= 600);
        room(n);
        long x = seed;
        for (int k = 0; k < n; k++) {
            x = x * 6364136223846793005L + 1442695040888963407L;
            put((int) Long.remainderUnsigned(x >>> 33, span));
        }
        return row.size();
    }

    int line(int first, int step, int n, int times) {
        argument(n >= 0 && n <= 600 && times >= 1 && times <= 600);
        room(n);
        int v = first;
        for (int k = 1; k <= n; k++) {
            put(v);
            if (k % times == 0) {
                v += step;
            }
        }
        return row.size();
    }

    void exchange(int i, int j) {
        place(i >= 0 && i < row.size() && j >= 0 && j < row.size());
        Collections.swap(row, i, j);
    }

    void turn(int from, int to) {
        place(0 <= from && from <= to && to <= row.size());
        Collections.reverse(row.subList(from, to));
    }

    int order(int o) {
        argument(o >= 0 && o <= 3);
        int was = order;
        order = o;
        return was;
    }

    int sort(int way) {
        argument(way >= 0 && way <= 4);
        return (int) measured(way, row);
    }

    int kill(int way, int n) {
        argument(way >= 0 && way <= 4 && n >= 0 && n <= 600);
        row.clear();
        for (int k = 0; k < n; k++) {
            put(n);
            row.get(k).open = true;
        }
        hostile = true;
        candidate = null;
        solid = 0;
        long took = measured(way, new ArrayList<>(row));
        hostile = false;
        return (int) took;
    }

    int get(int i) {
        place(i >= 0 && i < row.size());
        return row.get(i).number;
    }

    int tag(int i) {
        place(i >= 0 && i < row.size());
        return row.get(i).tag;
    }

    boolean is(int how) {
        argument(how >= 0 && how <= 2);
        boolean all = true;
        for (int i = 0; i + 1 < row.size(); i++) {
            long a = key(row.get(i));
            long b = key(row.get(i + 1));
            if (how == 2) {
                all &= b < a;
            } else {
                all &= a <= b && (how == 0 || a != b || row.get(i).tag < row.get(i + 1).tag);
            }
        }
        return all;
    }

    long count(int what) {
        argument(what >= 0 && what <= 8);
        return new long[] {
            row.size(), asked, latestAsked, falls, latestFalls, parted, runs, merges, order
        }[what];
    }

    int clear() {
        int had = row.size();
        row.clear();
        return had;
    }

    /** Of each range that was PARTED its size, L and R, so that a test can tell whether it is where it means to be. */
    List<String> partings() {
        return partings;
    }

    private static void argument(boolean good) {
        if (!good) {
            throw new IllegalArgumentException();
        }
    }

    private static void place(boolean good) {
        if (!good) {
            throw new IndexOutOfBoundsException();
        }
    }

    private void room(int n) {
        if (row.size() + n > 600) {
            throw new UnsupportedOperationException();
        }
    }

    private long measured(int way, List<Thing> a) {
        long before = asked;
        long fallsBefore = falls;
        switch (way) {
            case 0 -> insertionSort(a, 0, a.size());
            case 1 -> heapSort(a.subList(0, a.size()));
            case 2 -> {
                if (a.size() >= 2) {
                    pdq(a, 0, a.size(), 31 - Integer.numberOfLeadingZeros(a.size()), true);
                }
            }
            case 3 -> timSort(a);
            default -> shellSort(a);
        }
        latestAsked = asked - before;
        latestFalls = falls - fallsBefore;
        return latestAsked;
    }

    private long key(Thing t) {
        return switch (order) {
            case 0 -> t.number;
            case 1 -> -(long) t.number;
            case 2 -> Math.floorMod(t.number, 256);
            default -> Math.abs((long) t.number);
        };
    }

    private boolean lt(Thing x, Thing y) {
        asked++;
        if (!hostile) {
            return key(x) < key(y);
        }
        if (x.open && y.open) {
            Thing freeze = x == candidate ? x : y;
            freeze.number = solid++;
            freeze.open = false;
        }
        if (x.open) {
            candidate = x;
        } else if (y.open) {
            candidate = y;
        }
        if (x.open || y.open) {
            return !x.open;
        }
        return x.number < y.number;
    }

    private void insertionSort(List<Thing> a, int b, int e) {
        for (int i = b + 1; i < e; i++) {
            int j = i;
            while (j > b && lt(a.get(j), a.get(j - 1))) {
                Collections.swap(a, j, j - 1);
                j--;
            }
        }
    }

    private void unguardedInsertionSort(List<Thing> a, int b, int e) {
        for (int i = b + 1; i < e; i++) {
            int j = i;
            while (lt(a.get(j), a.get(j - 1))) {
                Collections.swap(a, j, j - 1);
                j--;
            }
        }
    }

    private boolean partialInsertionSort(List<Thing> a, int b, int e) {
        int limit = 0;
        for (int i = b + 1; i < e; i++) {
            if (limit > 8) {
                return false;
            }
            int j = i;
            while (j > b && lt(a.get(j), a.get(j - 1))) {
                Collections.swap(a, j, j - 1);
                j--;
                limit++;
            }
        }
        return true;
    }

    private void heapSort(List<Thing> h) {
        for (int i = h.size() / 2; i-- > 0; ) {
            sift(h, i, h.size());
        }
        for (int end = h.size() - 1; end > 0; end--) {
            Collections.swap(h, 0, end);
            sift(h, 0, end);
        }
    }

    private void sift(List<Thing> h, int i, int m) {
        int c = 2 * i + 1;
        if (c >= m) {
            return;
        }
        if (c + 1 < m && lt(h.get(c), h.get(c + 1))) {
            c++;
        }
        if (lt(h.get(i), h.get(c))) {
            Collections.swap(h, i, c);
            sift(h, c, m);
        }
    }

    private void sort2(List<Thing> a, int i, int j) {
        if (lt(a.get(j), a.get(i))) {
            Collections.swap(a, i, j);
        }
    }

    private void sort3(List<Thing> a, int i, int j, int k) {
        sort2(a, i, j);
        sort2(a, j, k);
        sort2(a, i, j);
    }

    private void pdq(List<Thing> a, int begin, int end, int badAllowed, boolean leftmost) {
        while (true) {
            int size = end - begin;
            if (size < 24) {
                if (leftmost) {
                    insertionSort(a, begin, end);
                } else {
                    unguardedInsertionSort(a, begin, end);
                }
                return;
            }
            int s2 = size / 2;
            if (size > 128) {
                sort3(a, begin, begin + s2, end - 1);
                sort3(a, begin + 1, begin + (s2 - 1), end - 2);
                sort3(a, begin + 2, begin + (s2 + 1), end - 3);
                sort3(a, begin + (s2 - 1), begin + s2, begin + (s2 + 1));
                Collections.swap(a, begin, begin + s2);
            } else {
                sort3(a, begin + s2, begin, end - 1);
            }
            if (!leftmost && !lt(a.get(begin - 1), a.get(begin))) {
                begin = partitionLeft(a, begin, end) + 1;
                continue;
            }
            boolean[] already = new boolean[1];
            int pivot = partitionRight(a, begin, end, already);
            int lSize = pivot - begin;
            int rSize = end - (pivot + 1);
            partings.add(size + " " + lSize + " " + rSize);
            if (lSize < size / 8 || rSize < size / 8) {
                if (--badAllowed == 0) {
                    falls++;
                    heapSort(a.subList(begin, end));
                    return;
                }
                if (lSize >= 24) {
                    Collections.swap(a, begin, begin + lSize / 4);
                    Collections.swap(a, pivot - 1, pivot - lSize / 4);
                    if (lSize > 128) {
                        Collections.swap(a, begin + 1, begin + (lSize / 4 + 1));
                        Collections.swap(a, begin + 2, begin + (lSize / 4 + 2));
                        Collections.swap(a, pivot - 2, pivot - (lSize / 4 + 1));
                        Collections.swap(a, pivot - 3, pivot - (lSize / 4 + 2));
                    }
                }
                if (rSize >= 24) {
                    Collections.swap(a, pivot + 1, pivot + (1 + rSize / 4));
                    Collections.swap(a, end - 1, end - rSize / 4);
                    if (rSize > 128) {
                        Collections.swap(a, pivot + 2, pivot + (2 + rSize / 4));
                        Collections.swap(a, pivot + 3, pivot + (3 + rSize / 4));
                        Collections.swap(a, end - 2, end - (1 + rSize / 4));
                        Collections.swap(a, end - 3, end - (2 + rSize / 4));
                    }
                }
            } else if (already[0] && partialInsertionSort(a, begin, pivot)
                && partialInsertionSort(a, pivot + 1, end)) {
                return;
            }
            pdq(a, begin, pivot, badAllowed, leftmost);
            begin = pivot + 1;
            leftmost = false;
        }
    }

    private int partitionRight(List<Thing> a, int begin, int end, boolean[] already) {
        parted++;
        Thing pivot = a.get(begin);
        int first = begin;
        int last = end;
        while (lt(a.get(++first), pivot)) { }
        if (first - 1 == begin) {
            while (first < last && !lt(a.get(--last), pivot)) { }
        } else {
            while (!lt(a.get(--last), pivot)) { }
        }
        already[0] = first >= last;
        while (first < last) {
            Collections.swap(a, first, last);
            while (lt(a.get(++first), pivot)) { }
            while (!lt(a.get(--last), pivot)) { }
        }
        Collections.swap(a, begin, first - 1);
        return first - 1;
    }

    private int partitionLeft(List<Thing> a, int begin, int end) {
        Thing pivot = a.get(begin);
        int first = begin;
        int last = end;
        while (lt(pivot, a.get(--last))) { }
        if (last + 1 == end) {
            while (first < last && !lt(pivot, a.get(++first))) { }
        } else {
            while (!lt(pivot, a.get(++first))) { }
        }
        while (first < last) {
            Collections.swap(a, first, last);
            while (lt(pivot, a.get(--last))) { }
            while (!lt(pivot, a.get(++first))) { }
        }
        Collections.swap(a, begin, last);
        return last;
    }

    private void timSort(List<Thing> a) {
        List<List<Thing>> pile = new ArrayList<>();
        List<Thing> rest = new ArrayList<>(a);
        while (!rest.isEmpty()) {
            pile.add(nextRun(rest));
            runs++;
            collapse(pile);
        }
        while (pile.size() > 1) {
            int n = pile.size() - 2;
            if (n > 0 && size(pile, n - 1) < size(pile, n + 1)) {
                n--;
            }
            mergeAt(pile, n);
        }
        a.clear();
        for (List<Thing> run : pile) {
            a.addAll(run);
        }
    }

    private List<Thing> nextRun(List<Thing> rest) {
        List<Thing> run = new ArrayList<>();
        run.add(rest.remove(0));
        if (!rest.isEmpty()) {
            boolean falling = lt(rest.get(0), run.get(0));
            do {
                run.add(rest.remove(0));
            } while (!rest.isEmpty() && lt(rest.get(0), run.get(run.size() - 1)) == falling);
            if (falling) {
                Collections.reverse(run);
            }
        }
        while (run.size() < 16 && !rest.isEmpty()) {
            Thing x = rest.remove(0);
            run.add(binaryPlace(run, x), x);
        }
        return run;
    }

    private int binaryPlace(List<Thing> run, Thing x) {
        int low = 0;
        int high = run.size();
        while (low < high) {
            // Halving places of the row comes to the same: (2 b + low + high) / 2 is b + (low + high) / 2.
            int c = (low + high) / 2;
            if (lt(x, run.get(c))) {
                high = c;
            } else {
                low = c + 1;
            }
        }
        return low;
    }

    private static int size(List<List<Thing>> pile, int k) {
        return pile.get(k).size();
    }

    private void collapse(List<List<Thing>> pile) {
        while (pile.size() > 1) {
            int n = pile.size() - 2;
            if (n > 0 && size(pile, n - 1) <= size(pile, n) + size(pile, n + 1)
                || n > 1 && size(pile, n - 2) <= size(pile, n - 1) + size(pile, n)) {
                if (size(pile, n - 1) < size(pile, n + 1)) {
                    n--;
                }
            } else if (size(pile, n) > size(pile, n + 1)) {
                return;
            }
            mergeAt(pile, n);
        }
    }

    private void mergeAt(List<List<Thing>> pile, int n) {
        merges++;
        List<Thing> left = pile.get(n);
        List<Thing> right = pile.remove(n + 1);
        List<Thing> both = new ArrayList<>();
        int l = 0;
        int r = 0;
        while (l < left.size() && r < right.size()) {
            both.add(lt(right.get(r), left.get(l)) ? right.get(r++) : left.get(l++));
        }
        both.addAll(left.subList(l, left.size()));
        both.addAll(right.subList(r, right.size()));
        pile.set(n, both);
    }

    private void shellSort(List<Thing> a) {
        for (int gap : new int[] {301, 132, 57, 23, 10, 4, 1}) {
            for (int i = gap; i < a.size(); i++) {
                for (int j = i; j >= gap && lt(a.get(j), a.get(j - gap)); j -= gap) {
                    Collections.swap(a, j, j - gap);
                }
            }
        }
    }
}
