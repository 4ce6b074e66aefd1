import java.util.Random;

/** Long runs of calls, each answered by the program and by the Model, with patterns that the ways look for. */
public final class ModelTest {
    private static final int[] ODD = {
        Integer.MIN_VALUE, Integer.MIN_VALUE + 1, -601, -2, -1, 0, 1, 2, 3, 4, 5, 8, 9, 15, 16, 17, 23, 24, 25,
        127, 128, 129, 255, 256, 599, 600, 601, Integer.MAX_VALUE - 1, Integer.MAX_VALUE
    };

    /** What an object answers beyond so many calls is free. */
    private static final int PROMISED = 512;
    /** So many places can be looked at, number and TAG, beside the other calls on one object. */
    private static final int PART = 200;

    private final Random random;
    private final SortBench program = new SortBench();
    private final Model model = new Model();
    private final int run;
    private int calls = 0;

    private ModelTest(int run) {
        this.run = run;
        this.random = new Random(run);
    }

    public static void main(String[] args) {
        for (int run = 0; run < 2000; run++) {
            ModelTest t = new ModelTest(run);
            while (t.calls < PROMISED) {
                t.step();
            }
        }
        killEverySize();
        sortEverySize();
        pileEveryShape();
        Check.end("ModelTest");
    }

    private static void killEverySize() {
        for (int way = 0; way <= 4; way++) {
            for (int n = 0; n <= 600; n += n < 140 ? 1 : 23) {
                for (int from = 0; from == 0 || from < n; from += PART) {
                    ModelTest killed = new ModelTest(n);
                    killed.kill(way, n);
                    killed.counts();
                    killed.places(from);
                    ModelTest sorted = new ModelTest(n);
                    sorted.kill(way, n);
                    sorted.sort(way);
                    sorted.counts();
                    sorted.places(from);
                }
            }
        }
    }

    private static void sortEverySize() {
        for (int way = 0; way <= 4; way++) {
            for (int n = 0; n <= 600; n += n < 140 ? 1 : 23) {
                for (int from = 0; from == 0 || from < n; from += PART) {
                    ModelTest t = new ModelTest(n);
                    t.more(n, n % 3 == 0 ? 7 : 100000, n);
                    t.sort(way);
                    t.counts();
                    t.places(from);
                }
            }
        }
    }

    /** The first three make a pile on which only the fourth RUN from the top asks for merging, or just not. */
    private static void pileEveryShape() {
        for (int lowest = 124; lowest <= 126; lowest++) {
            pile(lowest, lowest, 80, 25, 20, 30, 16);
        }
        for (int run = 0; run < 300; run++) {
            Random random = new Random(run);
            int[] lengths = new int[3 + random.nextInt(8)];
            int left = 600;
            for (int k = 0; k < lengths.length; k++) {
                lengths[k] = Math.min(left, 10 + random.nextInt(2 * left / (lengths.length + 2 - k) + 1));
                left -= lengths[k];
            }
            pile(run, lengths);
        }
    }

    private static void pile(int run, int... lengths) {
        for (int from = 0; from < 600; from += PART) {
            ModelTest t = new ModelTest(run);
            for (int length : lengths) {
                t.line(t.random.nextInt(10), 1 + t.random.nextInt(5), length, 1);
            }
            t.sort(3);
            t.counts();
            t.places(from);
        }
    }

    private void step() {
        switch (random.nextInt(16)) {
            case 0 -> put(random.nextBoolean() ? odd() : random.nextInt(20));
            case 1, 2 -> more(random.nextLong(), random.nextBoolean() ? 1 + random.nextInt(30) : Integer.MAX_VALUE,
                random.nextInt(300));
            case 3 -> line(odd(), random.nextInt(7) - 3, random.nextInt(300), 1 + random.nextInt(40));
            case 4 -> line(random.nextInt(100), random.nextInt(3) - 1, random.nextInt(601), 1 + random.nextInt(3));
            case 5 -> exchange(place(), place());
            case 6 -> turn(place(), place());
            case 7 -> order(random.nextInt(4));
            case 8, 9, 10 -> sortAndLook(random.nextInt(5));
            case 11 -> nearlySorted();
            case 12 -> kill(random.nextInt(5), random.nextInt(601));
            case 13 -> anyArguments();
            case 14 -> clear();
            default -> sortAndLook(2);
        }
    }

    /** A row that is sorted but for some exchanges makes QUICK's PARTLY give up, or just not. */
    private void nearlySorted() {
        clear();
        int n = 24 + random.nextInt(400);
        line(0, 1, n, 1);
        int swaps = random.nextInt(6);
        for (int k = 0; k < swaps; k++) {
            int i = random.nextInt(n - 10);
            exchange(i, i + random.nextInt(10));
        }
        sortAndLook(random.nextInt(3) == 0 ? 3 : 2);
    }

    private void sortAndLook(int way) {
        sort(way);
        counts();
        if (random.nextInt(8) == 0) {
            places(place());
        }
        is(random.nextInt(3));
    }

    private void anyArguments() {
        switch (random.nextInt(10)) {
            case 0 -> more(odd(), odd(), odd());
            case 1 -> line(odd(), odd(), odd(), odd());
            case 2 -> exchange(odd(), odd());
            case 3 -> turn(odd(), odd());
            case 4 -> order(odd());
            case 5 -> sort(odd());
            case 6 -> kill(odd(), odd());
            case 7 -> get(odd());
            case 8 -> is(odd());
            default -> count(odd());
        }
    }

    private int odd() {
        return ODD[random.nextInt(ODD.length)];
    }

    private int place() {
        return random.nextInt((int) model.count(0) + 1);
    }

    private void same(String call, Check.Call want, Check.Call got) {
        if (calls == PROMISED) {
            return;
        }
        calls++;
        Check.due("run " + run + ", call " + calls + ": " + call, Check.answer(want), Check.answer(got));
    }

    private void put(int v) {
        same("put(" + v + ")", () -> model.put(v), () -> program.put(v));
    }

    private void more(long seed, int span, int n) {
        same("more(" + seed + ", " + span + ", " + n + ")",
            () -> model.more(seed, span, n), () -> program.more(seed, span, n));
    }

    private void line(int first, int step, int n, int times) {
        same("line(" + first + ", " + step + ", " + n + ", " + times + ")",
            () -> model.line(first, step, n, times), () -> program.line(first, step, n, times));
    }

    private void exchange(int i, int j) {
        same("exchange(" + i + ", " + j + ")", () -> {
            model.exchange(i, j);
            return 0;
        }, () -> {
            program.exchange(i, j);
            return 0;
        });
    }

    private void turn(int from, int to) {
        same("turn(" + from + ", " + to + ")", () -> {
            model.turn(from, to);
            return 0;
        }, () -> {
            program.turn(from, to);
            return 0;
        });
    }

    private void order(int o) {
        same("order(" + o + ")", () -> model.order(o), () -> program.order(o));
    }

    private void sort(int way) {
        same("sort(" + way + ")", () -> model.sort(way), () -> program.sort(way));
    }

    private void kill(int way, int n) {
        same("kill(" + way + ", " + n + ")", () -> model.kill(way, n), () -> program.kill(way, n));
    }

    private void get(int i) {
        same("get(" + i + ")", () -> model.get(i), () -> program.get(i));
        same("tag(" + i + ")", () -> model.tag(i), () -> program.tag(i));
    }

    private void is(int how) {
        same("is(" + how + ")", () -> model.is(how) ? 1 : 0, () -> program.is(how) ? 1 : 0);
    }

    private void count(int what) {
        same("count(" + what + ")", () -> model.count(what), () -> program.count(what));
    }

    private void clear() {
        same("clear()", model::clear, program::clear);
    }

    private void places(int from) {
        for (int i = from; i <= model.count(0) && i < from + PART; i++) {
            get(i);
        }
    }

    private void counts() {
        for (int what = 0; what <= 8; what++) {
            count(what);
        }
    }
}
