/**
 * A bench for sorting: a row of numbers is sorted in five ways, and every comparison is counted.
 * The capitalised words in comments are the document's own terms.
 */
public final class SortBench {
    private static final int MOST = 600;
    private static final int LAST_ORDER = 3;
    private static final int LAST_WAY = 4;
    private static final int LAST_HOW = 2;
    private static final int LAST_WHAT = 8;
    private static final long FACTOR = 6364136223846793005L;
    private static final long SUMMAND = 1442695040888963407L;

    private final Row row;
    private final Inserting inserting;
    private final Heap heap;
    private final Quick quick;
    private final Runs runs;
    private final Steps steps;
    private long askedBefore;
    private long fallsBefore;
    private long latestAsked;
    private long latestFalls;

    public SortBench() {
        row = new Row();
        inserting = new Inserting(row);
        heap = new Heap(row);
        quick = new Quick(row, inserting, heap);
        runs = new Runs(row);
        steps = new Steps(row);
    }

    public int put(int v) throws UnsupportedOperationException {
        checkRoom(1);
        row.append(v);
        return row.size();
    }

    public int more(long seed, int span, int n) throws IllegalArgumentException, UnsupportedOperationException {
        if (span < 1) {
            throw new IllegalArgumentException("span is below 1");
        }
        checkAmount(n);
        checkRoom(n);
        long x = seed;
        for (int k = 0; k < n; k++) {
            x = x * FACTOR + SUMMAND;
            row.append((int) ((x >>> 33) % span));
        }
        return row.size();
    }

    public int line(int first, int step, int n, int times) throws IllegalArgumentException, UnsupportedOperationException {
        if (times < 1 || times > MOST) {
            throw new IllegalArgumentException("times is not 1 .. 600");
        }
        checkAmount(n);
        checkRoom(n);
        for (int k = 0; k < n; k++) {
            row.append(first + k / times * step);
        }
        return row.size();
    }

    public void exchange(int i, int j) throws IndexOutOfBoundsException {
        checkPlace(i);
        checkPlace(j);
        row.swap(i, j);
    }

    public void turn(int from, int to) throws IndexOutOfBoundsException {
        if (from < 0 || from > to || to > row.size()) {
            throw new IndexOutOfBoundsException("no such range");
        }
        row.reverse(from, to);
    }

    public int order(int o) throws IllegalArgumentException {
        checkChoice(o, LAST_ORDER);
        int before = row.ordering();
        row.setOrdering(o);
        return before;
    }

    public int sort(int way) throws IllegalArgumentException {
        checkChoice(way, LAST_WAY);
        startCounting();
        wayOf(way).arrange();
        return stopCounting();
    }

    public int kill(int way, int n) throws IllegalArgumentException {
        checkChoice(way, LAST_WAY);
        checkAmount(n);
        row.beginAdversary(n);
        startCounting();
        wayOf(way).arrange();
        row.endAdversary();
        return stopCounting();
    }

    public int get(int i) throws IndexOutOfBoundsException {
        checkPlace(i);
        return row.numberOf(row.at(i));
    }

    public int tag(int i) throws IndexOutOfBoundsException {
        checkPlace(i);
        return row.at(i);
    }

    public boolean is(int how) throws IllegalArgumentException {
        checkChoice(how, LAST_HOW);
        for (int i = 1; i < row.size(); i++) {
            if (!follows(how, row.at(i - 1), row.at(i))) {
                return false;
            }
        }
        return true;
    }

    public long count(int what) throws IllegalArgumentException {
        checkChoice(what, LAST_WHAT);
        switch (what) {
            case 0: return row.size();
            case 1: return row.asked();
            case 2: return latestAsked;
            case 3: return quick.falls();
            case 4: return latestFalls;
            case 5: return quick.parted();
            case 6: return runs.piled();
            case 7: return runs.merged();
            default: return row.ordering();
        }
    }

    public int clear() {
        int had = row.size();
        row.empty();
        return had;
    }

    private void checkPlace(int i) {
        if (i < 0 || i >= row.size()) {
            throw new IndexOutOfBoundsException("no such place");
        }
    }

    private void checkChoice(int chosen, int last) {
        if (chosen < 0 || chosen > last) {
            throw new IllegalArgumentException("no such choice");
        }
    }

    private void checkAmount(int n) {
        if (n < 0 || n > MOST) {
            throw new IllegalArgumentException("n is not 0 .. 600");
        }
    }

    private void checkRoom(int n) {
        if (n > MOST - row.size()) {
            throw new UnsupportedOperationException("more than 600 numbers");
        }
    }

    private Way wayOf(int way) {
        switch (way) {
            case 0: return inserting;
            case 1: return heap;
            case 2: return quick;
            case 3: return runs;
            default: return steps;
        }
    }

    private void startCounting() {
        askedBefore = row.asked();
        fallsBefore = quick.falls();
    }

    private int stopCounting() {
        latestAsked = row.asked() - askedBefore;
        latestFalls = quick.falls() - fallsBefore;
        return (int) latestAsked;
    }

    /** Looks at KEYS without row.less, because only a way's questions are COMPARISONS. */
    private boolean follows(int how, int before, int thing) {
        long keyBefore = row.keyFor(row.numberOf(before));
        long key = row.keyFor(row.numberOf(thing));
        switch (how) {
            case 0: return key >= keyBefore;
            case 1: return key > keyBefore || (key == keyBefore && thing > before);
            default: return key < keyBefore;
        }
    }

    /**
     * THE ROW. A TAG tells how many came before, so the TAGS are 0 .. size - 1 and each names one
     * thing: the ways move TAGS about, and the numbers stay where their TAG says.
     */
    private static final class Row {
        private static final int NONE = -1;

        private final int[] numbers;
        private final int[] things;
        private int size;
        private int ordering;
        private long asked;
        private boolean adversary;
        private int candidate;
        private int settled;

        Row() {
            numbers = new int[MOST];
            things = new int[MOST];
            candidate = NONE;
        }

        int size() {
            return size;
        }

        int ordering() {
            return ordering;
        }

        void setOrdering(int o) {
            ordering = o;
        }

        long asked() {
            return asked;
        }

        void empty() {
            size = 0;
        }

        void append(int number) {
            if (size >= 0 && size < numbers.length && size < things.length) {
                numbers[size] = number;
                things[size] = size;
                size++;
            }
        }

        int at(int place) {
            return place >= 0 && place < things.length ? things[place] : 0;
        }

        void set(int place, int thing) {
            if (place >= 0 && place < things.length) {
                things[place] = thing;
            }
        }

        int numberOf(int thing) {
            return thing >= 0 && thing < numbers.length ? numbers[thing] : 0;
        }

        void swap(int i, int j) {
            int x = at(i);
            set(i, at(j));
            set(j, x);
        }

        void reverse(int from, int to) {
            int high = to - 1;
            for (int low = from; low < high; low++) {
                swap(low, high);
                high--;
            }
        }

        /** A long, because the opposite and the size of the least int are no int. */
        long keyFor(long number) {
            switch (ordering) {
                case 1: return -number;
                case 2: return number & 255;
                case 3: return number < 0 ? -number : number;
                default: return number;
            }
        }

        /** A COMPARISON: the only place where one is counted. */
        boolean less(int x, int y) {
            asked++;
            if (adversary) {
                settle(x, y);
                return numberOf(x) < numberOf(y);
            }
            return keyFor(numberOf(x)) < keyFor(numberOf(y));
        }

        /** An OPEN thing bears the number n: settled ones are below it, so numbers alone decide. */
        void beginAdversary(int n) {
            size = 0;
            for (int k = 0; k < n; k++) {
                append(n);
            }
            candidate = NONE;
            settled = 0;
            adversary = true;
        }

        void endAdversary() {
            adversary = false;
            for (int k = 0; k < size; k++) {
                set(k, k);
            }
        }

        private void settle(int x, int y) {
            if (x < 0 || x >= numbers.length || y < 0 || y >= numbers.length) {
                return;
            }
            int open = size;
            if (numbers[x] == open && numbers[y] == open) {
                numbers[candidate == x ? x : y] = settled;
                settled++;
            }
            if (numbers[x] == open) {
                candidate = x;
            } else if (numbers[y] == open) {
                candidate = y;
            }
        }
    }

    /** A way of sorting THE ROW. */
    private abstract static class Way {
        final Row row;

        Way(Row row) {
            this.row = row;
        }

        abstract void arrange();
    }

    private static final class Inserting extends Way {
        private static final int PATIENCE = 8;

        Inserting(Row row) {
            super(row);
        }

        void arrange() {
            guarded(0, row.size());
        }

        void guarded(int b, int e) {
            for (int i = b + 1; i < e; i++) {
                insert(i, b);
            }
        }

        /** What stands before b is not greater than any in b .. e and stops each one: 0 is never reached. */
        void unguarded(int b, int e) {
            for (int i = b + 1; i < e; i++) {
                insert(i, 0);
            }
        }

        /** Answers whether it came to the end, without giving up. */
        boolean partly(int b, int e) {
            int sum = 0;
            for (int i = b + 1; i < e; i++) {
                if (sum > PATIENCE) {
                    return false;
                }
                sum += insert(i, b);
            }
            return true;
        }

        /** Answers by how many places the one at i went down. */
        private int insert(int i, int lowest) {
            int x = row.at(i);
            if (!row.less(x, row.at(i - 1))) {
                return 0;
            }
            int j = i;
            do {
                row.set(j, row.at(j - 1));
                j--;
            } while (j > lowest && row.less(x, row.at(j - 1)));
            row.set(j, x);
            return i - j;
        }
    }

    private static final class Heap extends Way {
        Heap(Row row) {
            super(row);
        }

        void arrange() {
            arrangeRange(0, row.size());
        }

        void arrangeRange(int b, int e) {
            int n = e - b;
            for (int i = n / 2 - 1; i >= 0; i--) {
                sink(b, i, n);
            }
            for (int k = n - 1; k >= 1; k--) {
                row.swap(b, b + k);
                sink(b, 0, k);
            }
        }

        private void sink(int b, int top, int m) {
            int x = row.at(b + top);
            int i = top;
            int c = 2 * i + 1;
            while (c < m) {
                if (c + 1 < m && row.less(row.at(b + c), row.at(b + c + 1))) {
                    c++;
                }
                if (!row.less(x, row.at(b + c))) {
                    break;
                }
                row.set(b + i, row.at(b + c));
                i = c;
                c = 2 * i + 1;
            }
            row.set(b + i, x);
        }
    }

    /** The range at hand is from .. to; right ranges wait on a stack while the left ones are done. */
    private static final class Quick extends Way {
        private static final int SMALL = 24;
        private static final int LARGE = 128;
        /** Each step to the left costs BUDGET (at most 9) or an eighth of the range: some 32 steps. */
        private static final int DEEPEST = 64;
        /** Each turn ends a range or takes a number out of it: far fewer turns than this. */
        private static final int TURNS = 1000000;

        private final Inserting inserting;
        private final Heap heap;
        private final int[] waitingFrom;
        private final int[] waitingTo;
        private final int[] waitingBudget;
        private int waiting;
        private int from;
        private int to;
        private int budget;
        private boolean first;
        private int middle;
        private boolean wasParted;
        private long falls;
        private long parted;

        Quick(Row row, Inserting inserting, Heap heap) {
            super(row);
            this.inserting = inserting;
            this.heap = heap;
            waitingFrom = new int[DEEPEST];
            waitingTo = new int[DEEPEST];
            waitingBudget = new int[DEEPEST];
        }

        long falls() {
            return falls;
        }

        long parted() {
            return parted;
        }

        void arrange() {
            boolean busy = row.size() >= 2;
            takeWhole();
            for (int turns = 0; busy && turns < TURNS; turns++) {
                int s = to - from;
                if (s < SMALL) {
                    finishSmall();
                    busy = takeWaiting();
                    continue;
                }
                choosePivot(s / 2, s > LARGE);
                if (!first && !row.less(row.at(from - 1), row.at(from))) {
                    from = moveEqualLeft() + 1;
                    continue;
                }
                part();
                if (isDoneWhenParted(s / 8)) {
                    busy = takeWaiting();
                } else {
                    goLeft();
                }
            }
        }

        private void takeWhole() {
            waiting = 0;
            from = 0;
            to = row.size();
            first = true;
            budget = 0;
            for (int k = 1; k < 31 && to >> k > 0; k++) {
                budget = k;
            }
        }

        private boolean takeWaiting() {
            if (waiting < 1 || waiting > DEEPEST) {
                return false;
            }
            waiting--;
            from = waitingFrom[waiting];
            to = waitingTo[waiting];
            budget = waitingBudget[waiting];
            first = false;
            return true;
        }

        private void goLeft() {
            if (waiting >= 0 && waiting < DEEPEST) {
                waitingFrom[waiting] = middle + 1;
                waitingTo[waiting] = to;
                waitingBudget[waiting] = budget;
                waiting++;
            }
            to = middle;
        }

        private void finishSmall() {
            if (first) {
                inserting.guarded(from, to);
            } else {
                inserting.unguarded(from, to);
            }
        }

        private void choosePivot(int h, boolean large) {
            int half = from + h;
            if (large) {
                three(from, half, to - 1);
                three(from + 1, half - 1, to - 2);
                three(from + 2, half + 1, to - 3);
                three(half - 1, half, half + 1);
                row.swap(from, half);
            } else {
                three(half, from, to - 1);
            }
        }

        private void three(int i, int j, int k) {
            two(i, j);
            two(j, k);
            two(i, j);
        }

        private void two(int i, int j) {
            if (row.less(row.at(j), row.at(i))) {
                row.swap(i, j);
            }
        }

        /** Answers the place of the last EQUAL one. */
        private int moveEqualLeft() {
            int p = row.at(from);
            int f = from;
            int l = downWhileGreater(to, p);
            if (l + 1 == to) {
                while (f < l) {
                    f++;
                    if (row.less(p, row.at(f))) {
                        break;
                    }
                }
            } else {
                f = upTillGreater(f, p);
            }
            for (int swaps = 0; f < l && swaps < MOST; swaps++) {
                row.swap(f, l);
                l = downWhileGreater(l, p);
                f = upTillGreater(f, p);
            }
            row.set(from, row.at(l));
            row.set(l, p);
            return l;
        }

        private void part() {
            int p = row.at(from);
            int f = upWhileLess(from, p);
            int l = to;
            if (f - 1 == from) {
                while (f < l) {
                    l--;
                    if (row.less(row.at(l), p)) {
                        break;
                    }
                }
            } else {
                l = downTillLess(l, p);
            }
            wasParted = f >= l;
            for (int swaps = 0; f < l && swaps < MOST; swaps++) {
                row.swap(f, l);
                f = upWhileLess(f, p);
                l = downTillLess(l, p);
            }
            middle = f - 1;
            row.set(from, row.at(middle));
            row.set(middle, p);
            parted++;
        }

        // These four stop within the range by themselves; the row's ends only make that plain.

        private int upWhileLess(int start, int p) {
            int f = start + 1;
            while (f < row.size() && row.less(row.at(f), p)) {
                f++;
            }
            return f;
        }

        private int upTillGreater(int start, int p) {
            int f = start + 1;
            while (f < row.size() && !row.less(p, row.at(f))) {
                f++;
            }
            return f;
        }

        private int downWhileGreater(int start, int p) {
            int l = start - 1;
            while (l >= 0 && row.less(p, row.at(l))) {
                l--;
            }
            return l;
        }

        private int downTillLess(int start, int p) {
            int l = start - 1;
            while (l >= 0 && !row.less(row.at(l), p)) {
                l--;
            }
            return l;
        }

        private boolean isDoneWhenParted(int eighth) {
            int left = middle - from;
            int right = to - middle - 1;
            if (left >= eighth && right >= eighth) {
                return wasParted && inserting.partly(from, middle) && inserting.partly(middle + 1, to);
            }
            budget--;
            if (budget == 0) {
                falls++;
                heap.arrangeRange(from, to);
                return true;
            }
            breakPatterns(from, middle);
            breakPatterns(middle + 1, to);
            return false;
        }

        private void breakPatterns(int b, int e) {
            int size = e - b;
            int q = size / 4;
            if (size >= SMALL) {
                row.swap(b, b + q);
                row.swap(e - 1, e - q);
            }
            if (size > LARGE) {
                row.swap(b + 1, b + 1 + q);
                row.swap(b + 2, b + 2 + q);
                row.swap(e - 2, e - 1 - q);
                row.swap(e - 3, e - 2 - q);
            }
        }
    }

    private static final class Runs extends Way {
        private static final int SHORTEST = 16;
        /** All RUNS but the last have 16 or more, so 600 numbers make at most 38. */
        private static final int PILE = 40;

        private final int[] begins;
        private final int[] sizes;
        private final int[] spare;
        private int height;
        private long piled;
        private long merged;

        Runs(Row row) {
            super(row);
            begins = new int[PILE];
            sizes = new int[PILE];
            spare = new int[MOST];
        }

        long piled() {
            return piled;
        }

        long merged() {
            return merged;
        }

        void arrange() {
            height = 0;
            int n = row.size();
            int b = 0;
            for (int k = 0; k < n && b < n; k++) {
                int e = lengthen(b, findRun(b, n), n);
                pileUp(b, e - b);
                mergeWhileFlat();
                b = e;
            }
            mergeAll();
        }

        /** Answers where the RUN from b on ends. */
        private int findRun(int b, int n) {
            int e = b + 2;
            if (e > n) {
                return n;
            }
            if (row.less(row.at(b + 1), row.at(b))) {
                while (e < n && row.less(row.at(e), row.at(e - 1))) {
                    e++;
                }
                row.reverse(b, e);
                return e;
            }
            while (e < n && !row.less(row.at(e), row.at(e - 1))) {
                e++;
            }
            return e;
        }

        private int lengthen(int b, int e, int n) {
            int end = Math.min(b + SHORTEST, n);
            for (int i = e; i < end; i++) {
                insertByHalves(b, i);
            }
            return Math.max(e, end);
        }

        private void insertByHalves(int b, int place) {
            int x = row.at(place);
            int low = b;
            int high = place;
            while (low < high) {
                int c = (low + high) / 2;
                if (row.less(x, row.at(c))) {
                    high = c;
                } else {
                    low = c + 1;
                }
            }
            for (int j = place; j > low; j--) {
                row.set(j, row.at(j - 1));
            }
            row.set(low, x);
        }

        private void pileUp(int b, int size) {
            if (height >= 0 && height < PILE) {
                begins[height] = b;
                sizes[height] = size;
                height++;
            }
            piled++;
        }

        private int sizeAt(int k) {
            return k >= 0 && k < PILE ? sizes[k] : 0;
        }

        private int beginAt(int k) {
            return k >= 0 && k < PILE ? begins[k] : 0;
        }

        private void mergeWhileFlat() {
            for (int left = height; left >= 2; left--) {
                int t = height - 1;
                if (isFlat(t)) {
                    mergeAt(lesserSide(t));
                } else if (sizeAt(t - 1) <= sizeAt(t)) {
                    mergeAt(t - 1);
                } else {
                    return;
                }
            }
        }

        private void mergeAll() {
            for (int left = height; left >= 2; left--) {
                mergeAt(lesserSide(height - 1));
            }
        }

        private boolean isFlat(int t) {
            return (t >= 2 && sizeAt(t - 2) <= sizeAt(t - 1) + sizeAt(t))
                || (t >= 3 && sizeAt(t - 3) <= sizeAt(t - 2) + sizeAt(t - 1));
        }

        /** Answers the lower one of the two RUNS that are to be MERGED, t - 1 being one of them. */
        private int lesserSide(int t) {
            return t >= 2 && sizeAt(t - 2) < sizeAt(t) ? t - 2 : t - 1;
        }

        /** Puts the RUNS k and k + 1 of the pile together; what lies above them comes down. */
        private void mergeAt(int k) {
            if (k < 0 || k + 1 >= height || height > PILE) {
                return;
            }
            int between = begins[k + 1];
            merge(begins[k], between, between + sizes[k + 1]);
            sizes[k] += sizes[k + 1];
            for (int above = k + 2; above < height; above++) {
                begins[above - 1] = beginAt(above);
                sizes[above - 1] = sizeAt(above);
            }
            height--;
            merged++;
        }

        private void merge(int b, int between, int e) {
            int held = Math.min(between - b, spare.length);
            for (int i = 0; i < held; i++) {
                spare[i] = row.at(b + i);
            }
            int i = 0;
            int right = between;
            int goal = b;
            while (i < held && right < e) {
                if (row.less(row.at(right), spare[i])) {
                    row.set(goal, row.at(right));
                    right++;
                } else {
                    row.set(goal, spare[i]);
                    i++;
                }
                goal++;
            }
            for (; i < held; i++) {
                row.set(goal, spare[i]);
                goal++;
            }
        }
    }

    private static final class Steps extends Way {
        private static final int[] GAPS = {301, 132, 57, 23, 10, 4, 1};

        Steps(Row row) {
            super(row);
        }

        void arrange() {
            for (int g : GAPS) {
                for (int i = g; i < row.size(); i++) {
                    stepDown(i, g);
                }
            }
        }

        private void stepDown(int place, int g) {
            int x = row.at(place);
            int j = place;
            while (j >= g && row.less(x, row.at(j - g))) {
                row.set(j, row.at(j - g));
                j -= g;
            }
            row.set(j, x);
        }
    }
}
