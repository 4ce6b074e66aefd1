/**
 * The boundary cases of QUICK (and of UNGUARDED, PARTLY and HEAP within it), sentence by sentence, with COMPARISONS
 * that were counted by hand from the document; and the sizes 128 and 129 beside the Model.
 */
public final class EdgeQuickTest {
    /** Behind the fives up to place 12: 50 is 9 places too high, and one more follows, before which PARTLY gives up. */
    private static final int[] NINE_TOO_HIGH = {51, 52, 53, 54, 55, 56, 57, 58, 59, 50, 60};

    public static void main(String[] args) {
        fewerThanTwo();
        budget();
        fewerThan24First();
        fewerThan24NotFirst();
        unguardedAsksBeforeItsRange();
        moreThan128();
        moreThan128ByChance();
        equalOnesUpToTheLast();
        equalOnesBelowGreaterOnes();
        equalOnesBelowOneGreaterOne();
        equalOnesAllOfTheRange();
        equalOnesAllOfARangeWithin();
        lessThanAnEighthLeft();
        lessThanAnEighthRight();
        leftOf24();
        rightOf24();
        sidesOf128();
        partlyLeft();
        partlyRight();
        partlyBothFrom0();
        partlyAtOnce();
        Check.end("EdgeQuickTest");
    }

    private static void quick(String when, int asked, int parted, SortBench x) {
        Check.due(when + ": sort(2)", asked, x.sort(2));
        Check.due(when + ": count(5)", parted, x.count(5));
        Check.due(when + ": is(0)", true, x.is(0));
    }

    private static SortBench line(int first, int step, int n) {
        SortBench x = new SortBench();
        x.line(first, step, n, 1);
        return x;
    }

    // "QUICK (2) of n numbers (nothing, with fewer than two)"

    private static void fewerThanTwo() {
        quick("none", 0, 0, Check.of());
        quick("one", 0, 0, Check.of(3));
        quick("1 2", 1, 0, Check.of(1, 2));
        quick("2 1", 1, 0, Check.of(2, 1));
    }

    // "a BUDGET of the greatest k with 2^k not above n"; "the BUDGET is one less; if that is 0: HEAP in b .. e"

    /**
     * The ADVERSARY settles the middle one as the least and the first one as the next, so L is 1 each time, which is
     * below s / 8, and the right range has two less: as many as BUDGET tells are PARTED, if so many have 24 or more.
     */
    private static void budget() {
        killed(29, 3, 0);
        killed(30, 4, 1);
        killed(31, 4, 1);
        killed(32, 5, 1);
        killed(33, 5, 1);
        killed(63, 5, 1);
        killed(64, 6, 1);
        killed(127, 6, 1);
        killed(128, 7, 1);
        killed(255, 7, 1);
        killed(256, 8, 1);
        killed(511, 8, 1);
        killed(512, 9, 1);
        killed(600, 9, 1);
    }

    private static void killed(int n, int parted, int falls) {
        SortBench x = new SortBench();
        x.kill(2, n);
        Check.due("kill(2, " + n + "): count(5)", parted, x.count(5));
        Check.due("kill(2, " + n + "): count(4)", falls, x.count(4));
        Model model = new Model();
        Check.due("kill(2, " + n + "): count(2)", model.kill(2, n), x.count(2));
        for (int i = 0; i < n; i += n / 200 + 1) {
            Check.due("kill(2, " + n + "): get(" + i + ")", model.get(i), x.get(i));
        }
        x.sort(2);
        Check.due("kill(2, " + n + "), sort(2): count(5)", 2 * parted, x.count(5));
        Check.due("kill(2, " + n + "), sort(2): count(3)", 2 * falls, x.count(3));
        Check.due("kill(2, " + n + "), sort(2): is(0)", true, x.is(0));
    }

    // "s < 24: INSERTING, if it is FIRST, else UNGUARDED, and it is done."

    private static void fewerThan24First() {
        quick("22 rising", 21, 0, line(0, 1, 22));
        quick("23 rising", 22, 0, line(0, 1, 23));
        quick("23 falling", 23 * 22 / 2, 0, line(0, -1, 23));
        // THREE: 3, and 12 and 0 change places; f comes to 13: 13; l to 12: 12; PARTLY 11 and 10
        quick("24 rising", 3 + 13 + 12 + 11 + 10, 1, line(0, 1, 24));
        // likewise with l from 24 on: 13; PARTLY 11 and 11
        quick("25 rising", 3 + 13 + 13 + 11 + 11, 1, line(0, 1, 25));
    }

    private static void fewerThan24NotFirst() {
        // L is 1 (see above), so 25 leave a right range of 23, 26 one of 24, which is PARTED
        killed(24, 1, 0);
        killed(25, 1, 0);
        killed(26, 2, 0);
        killed(27, 2, 0);
        killed(28, 3, 0);
    }

    /**
     * Of 24 numbers 1 is the first, 0 in the middle: L is 1, R 22. THREE: 3; 1 and 12 till both are found, 1 and 11
     * when they are exchanged. On the right all rise but the last, which is the least: 20, and 21 down to b = 2, and
     * one more asked of a[1].
     */
    private static void unguardedAsksBeforeItsRange() {
        SortBench x = Check.of(1, 13, 3, 4, 5, 6, 7, 8, 9, 10, 11, 12, 0, 14, 15, 16, 17, 18, 19, 20, 21, 22, 23, 2);
        quick("the right range's least is last", 3 + 1 + 12 + 1 + 11 + 20 + 21 + 1, 1, x);
        // FIRST does not ask before its range: the 23rd comes down to place 0 with 22
        SortBench y = line(1, 1, 22);
        y.put(0);
        quick("23, the least is last", 21 + 22, 0, y);
    }

    // "s > 128: THREE(b, b + h, e - 1), .. and b, b + h are exchanged; else THREE(b + h, b, e - 1)."

    private static void moreThan128() {
        // h is 64: f comes to 65: 65; l to 64: 64 from 128 on; PARTLY 63 and 62
        quick("128 rising", 3 + 65 + 64 + 63 + 62, 1, line(0, 1, 128));
        // h is 64: l comes to 64 with 65 from 129 on; PARTLY 63 and 63
        quick("129 rising", 12 + 65 + 65 + 63 + 63, 1, line(0, 1, 129));
        // h is 63: f comes to 64, l to 63; PARTLY 62 and 62
        quick("127 rising", 3 + 64 + 64 + 62 + 62, 1, line(0, 1, 127));
        quick("600 rising", 12 + 301 + 300 + 299 + 298, 1, line(0, 1, 600));
    }

    /** Here THREE does exchange: which places it asks of shows in how long the rest takes, and in the TAGS. */
    private static void moreThan128ByChance() {
        for (int n = 127; n <= 131; n++) {
            for (int seed = 0; seed < 60; seed++) {
                int span = seed % 3 == 0 ? 10 : 100000;
                SortBench x = new SortBench();
                Model model = new Model();
                x.more(seed, span, n);
                model.more(seed, span, n);
                String when = "more(" + seed + ", " + span + ", " + n + ")";
                quick(when, model.sort(2), model.partings().size(), x);
                for (int i = 0; i < n; i++) {
                    Check.due(when + ", way 2: tag(" + i + ")", model.tag(i), x.tag(i));
                }
            }
        }
    }

    // "If it is not FIRST, and not a[b - 1] < a[b]: EQUAL ones go left: .. l is one less, once, and again as long as
    // p < a[l]; if l + 1 is e: as long as f < l: f is one more, till p < a[f]; else f is one more, once, and again till
    // p < a[f] .. the range begins behind l, and so on."

    /** 26 numbers whose first k are 5, the others 9: FIRST asks 3, 1 and 25, L is 0; 25 and 20 are exchanged. */
    private static SortBench fivesAndNines(int k) {
        SortBench x = line(5, 0, k);
        x.line(9, 0, 26 - k, 1);
        return x;
    }

    private static void equalOnesUpToTheLast() {
        // 20 is 9 now, 25 is 5. THREE 3, a[0] < a[1] 1; l stays 25: 1; f comes to 20: 19; exchanged, l to 20: 5, f to
        // 21: 1; five 9 are left: 4
        quick("21 fives, 5 nines", 29 + 3 + 1 + 1 + 19 + 5 + 1 + 4, 1, fivesAndNines(21));
    }

    private static void equalOnesBelowGreaterOnes() {
        // 20 and 25 are 9. THREE 3, 1; l comes to 19: 7; f to 20: 19; six 9 are left: 5
        quick("20 fives, 6 nines", 29 + 3 + 1 + 7 + 19 + 5, 1, fivesAndNines(20));
    }

    private static void equalOnesBelowOneGreaterOne() {
        SortBench x = line(5, 0, 20);
        x.put(9);
        x.line(5, 0, 5, 1);
        // the 9 comes from 20 to 25. THREE 3, 1; l comes to 24: 2, so l + 1 is not e; f comes to 25: 24; one is left
        quick("20 fives, a nine, 5 fives", 29 + 3 + 1 + 2 + 24, 1, x);
    }

    private static void equalOnesAllOfTheRange() {
        // 24: the right range has 23, UNGUARDED: 22
        quick("24 alike", 3 + 1 + 23 + 22, 1, line(5, 0, 24));
        // 25: THREE 3, 1; l stays 24: 1; f goes up to l: 23; none is left, and going left is not being PARTED
        quick("25 alike", 3 + 1 + 24 + 3 + 1 + 1 + 23, 1, line(5, 0, 25));
        quick("26 alike", 3 + 1 + 25 + 3 + 1 + 1 + 24, 1, line(5, 0, 26));
        SortBench x = line(5, 0, 25);
        x.put(4);
        // 4 comes to 13 by THREE, 5 to the end; L is 1: 1, 13 (25 .. 13), exchanged, 1, 12; R is 24: exchanged; then
        // a[1] < a[2] does not hold: THREE 3, 1, l 1, f 23
        quick("25 alike and a lesser last one", 3 + 1 + 13 + 1 + 12 + 3 + 1 + 1 + 23, 1, x);
    }

    /** Behind its end stand greater ones: going on till p < a[f] would ask of these, but it stops at l. */
    private static void equalOnesAllOfARangeWithin() {
        SortBench x = Check.of(100);
        x.line(5, 0, 25, 1);
        x.line(101, 1, 2, 1);
        // THREE 3, f 26, l 3; R is 2, below 28 / 8. The left range of 25 alike as above, then UNGUARDED 1
        quick("25 alike below three", 3 + 26 + 3 + 56 + 1, 2, x);
    }

    // "Left are L = m - b, right R = e - m - 1 numbers. If one of them is below s / 8: the BUDGET is one less .. Otherwise,
    // if it WAS PARTED: PARTLY in b .. m, and if that does not give up, in m + 1 .. e, and if that does not, it is done."

    /**
     * s numbers: 5, so many lesser ones (the least of them last, so that they are sorted when 5 stands behind them),
     * fives up to the middle, then the others. With 3 by THREE it is PARTED, asking s + 4 in all.
     */
    private static SortBench lesserOnes(int s, int lesser, int... others) {
        SortBench x = Check.of(5);
        x.line(1 - lesser, 1, lesser - 1, 1);
        x.put(-lesser);
        x.line(5, 0, s / 2 - lesser, 1);
        for (int v : others) {
            x.put(v);
        }
        if (others.length == 0) {
            x.line(50, 1, s - s / 2 - 1, 1);
        }
        Check.due("lesserOnes(" + s + ", " + lesser + ")", s, x.count(0));
        return x;
    }

    private static void lessThanAnEighthLeft() {
        // 3 is not below 24 / 8: PARTLY asks 2 and (17 + 10), gives up; then INSERTING 2, UNGUARDED 19
        quick("24, L is 3", 28 + 2 + 27 + 2 + 19, 1, lesserOnes(24, 3, NINE_TOO_HIGH));
        // 2 is: INSERTING 1, UNGUARDED 18 + 10 + 1
        quick("24, L is 2", 28 + 1 + 29, 1, lesserOnes(24, 2, NINE_TOO_HIGH));
        // 31 / 8 is cut off to 3: PARTLY 2 and 26
        quick("31, L is 3", 35 + 2 + 26, 1, lesserOnes(31, 3));
        quick("32, L is 4", 36 + 3 + 26, 1, lesserOnes(32, 4));
        // 3 is below 4; R is 28: 4 and 11, 31 and 25 are exchanged. INSERTING 2. Right: THREE 3, which exchanges 18 and
        // 4; a[3] < a[4] 1; f comes to 19: 15; l to 18: 14; PARTLY 13, and 5 + 1 + 10 + 7, the last of which makes the
        // sum 11, but none follows
        quick("32, L is 3", 36 + 2 + 3 + 1 + 15 + 14 + 13 + 23, 2, lesserOnes(32, 3));
    }

    /** s numbers: 100, L lesser ones (those given, else rising, and the least of them last), then so many greater ones. */
    private static SortBench greaterOnes(int s, int greater, int... lesser) {
        SortBench x = Check.of(100);
        int left = s - 1 - greater;
        for (int v : lesser) {
            x.put(v);
        }
        x.line(lesser.length + 1, 1, left - 1 - lesser.length, 1);
        x.put(0);
        x.line(101, 1, greater, 1);
        Check.due("greaterOnes(" + s + ", " + greater + ")", s, x.count(0));
        return x;
    }

    private static void lessThanAnEighthRight() {
        int[] nineTooHigh = {1, 2, 3, 4, 5, 6, 7, 8, 10, 11, 12, 13, 14, 15, 16, 17, 18, 9};
        // THREE 3, f 21, l 4; 3 is not below 24 / 8: PARTLY 17 + 10, gives up; INSERTING 19, UNGUARDED 2
        quick("24, R is 3", 3 + 21 + 4 + 27 + 19 + 2, 1, greaterOnes(24, 3, nineTooHigh));
        // f 22, l 3; 2 is: INSERTING 17 + 10 + 2, UNGUARDED 1
        quick("24, R is 2", 3 + 22 + 3 + 29 + 1, 1, greaterOnes(24, 2, nineTooHigh));
        quick("31, R is 3", 3 + 28 + 4 + 26 + 2, 1, greaterOnes(31, 3));
        quick("32, R is 4", 3 + 28 + 5 + 26 + 3, 1, greaterOnes(32, 4));
        // f 29, l 4; L is 28: 0 and 7, 27 and 21 are exchanged. Left: THREE 3, which exchanges 14 and 0; f comes to 15:
        // 15; l to 14: 14; PARTLY 1 + 10 + 7, the sum is 13, gives up; INSERTING 13, UNGUARDED 5 + 1 + 10 + 7. Right: 2
        quick("32, R is 3", 3 + 29 + 4 + 3 + 15 + 14 + 18 + 13 + 23 + 2, 2, greaterOnes(32, 3));
    }

    // "if L is 24 or more, with q = L / 4: b and b + q, m - 1 and m - q are exchanged"

    private static void leftOf24() {
        // 2 is below 26 / 8; THREE 3, f 24, l 3; INSERTING 22, UNGUARDED 1
        quick("L is 23", 3 + 24 + 3 + 22 + 1, 1, greaterOnes(26, 2));
        // f 25, l 3; 0 and 6, 23 and 18 are exchanged. Left: THREE 3, which exchanges 12 and 0; f comes to 13: 13; l to
        // 12: 12; PARTLY 1 + 8 + 6, the sum is 11, gives up; INSERTING 11, UNGUARDED 4 + 1 + 8 + 6. Right: 1
        quick("L is 24", 3 + 25 + 3 + 3 + 13 + 12 + 15 + 11 + 19 + 1, 2, greaterOnes(27, 2));
    }

    // "if R is 24 or more, with q = R / 4: m + 1 and m + 1 + q, e - 1 and e - q"

    /** 2, 0, a greater one, others rising from 3 at place 3 on, but 1 at place 13: L is 2, and then all rise behind m. */
    private static SortBench twoLesserOnes(int s) {
        SortBench x = Check.of(2, 0, 13);
        x.line(3, 1, 10, 1);
        x.put(1);
        x.line(14, 1, s - 14, 1);
        return x;
    }

    private static void rightOf24() {
        // THREE 3; f comes to 2: 2; l to 13: 13; exchanged; 1 and 11; INSERTING 1, UNGUARDED 22
        quick("R is 23", 3 + 2 + 13 + 1 + 11 + 1 + 22, 1, twoLesserOnes(26));
        // l 14; 3 and 9, 26 and 21 are exchanged. Right: THREE 3, which exchanges 15 and 3; a[2] < a[3] 1; f comes to 16:
        // 13; l to 15: 12; PARTLY 15 as above, gives up; UNGUARDED 11, and 19 as above
        quick("R is 24", 3 + 2 + 14 + 1 + 11 + 1 + 3 + 1 + 13 + 12 + 15 + 11 + 19, 2, twoLesserOnes(27));
    }

    // "if L is above 128, also b + 1 and b + q + 1, ..; if R is above 128, also m + 2 and m + 2 + q, .."

    private static void sidesOf128() {
        for (int side = 127; side <= 130; side++) {
            besideModel(side + 6, side);
            besideModel(side + 6, 5);
        }
    }

    /** The numbers 0 .. s - 1, such that no THREE exchanges and the least but so many comes to be p. */
    private static void besideModel(int s, int left) {
        int[] row = new int[s];
        java.util.Arrays.fill(row, -1);
        int[] taken = {left - 1, left, left + 1, left + 2, left + 3, left + 4};
        int[] places = {s / 2 - 1, s / 2, s / 2 + 1, s - 3, s - 2, s - 1};
        for (int k = 0; k < places.length; k++) {
            row[places[k]] = taken[k];
        }
        int v = 0;
        for (int i = 0; i < s; i++) {
            if (row[i] < 0) {
                v = v == left - 1 ? left + 5 : v;
                row[i] = v++;
            }
        }
        SortBench x = Check.of(row);
        Model model = new Model();
        for (int number : row) {
            model.put(number);
        }
        int asked = model.sort(2);
        Check.due("of " + s + " L is " + left, s + " " + left + " " + (s - 1 - left), model.partings().get(0));
        quick("of " + s + " L is " + left, asked, model.partings().size(), x);
        for (int i = 0; i < s; i++) {
            Check.due("of " + s + " L is " + left + ": get(" + i + ")", i, x.get(i));
        }
    }

    // "PARTLY: the same as INSERTING, but each time i - j comes to a sum, at first 0; before an i with which the sum is
    // above 8 it gives up."

    /** 24 rising (49, see above), but 11 is so many places too low, or 23 is: those behind it go down by one each. */
    private static SortBench tooLow(int left, int right) {
        SortBench x = line(0, 1, 24);
        for (int j = 11; j > 11 - left; j--) {
            x.exchange(j, j - 1);
        }
        for (int j = 23; j > 23 - right; j--) {
            x.exchange(j, j - 1);
        }
        return x;
    }

    private static void partlyLeft() {
        // before the last i the sum is 7, 8 and 9; the last gives up: 1 + 18 asked, then INSERTING 10 + 2, UNGUARDED 10
        quick("11 is 8 too low", 49 + 8, 1, tooLow(8, 0));
        quick("11 is 9 too low", 49 + 9, 1, tooLow(9, 0));
        quick("11 is 10 too low", 28 + 19 + 12 + 10, 1, tooLow(10, 0));
    }

    private static void partlyRight() {
        // likewise; the last gives up in 13 .. 24: 11, then 1 + 16 asked; then INSERTING 11, UNGUARDED 9 + 2
        quick("23 is 8 too low", 49 + 8, 1, tooLow(0, 8));
        quick("23 is 9 too low", 49 + 9, 1, tooLow(0, 9));
        quick("23 is 10 too low", 28 + 11 + 17 + 11 + 11, 1, tooLow(0, 10));
    }

    private static void partlyBothFrom0() {
        quick("11 and 23 are 8 too low", 49 + 8 + 8, 1, tooLow(8, 8));
        quick("11 and 23 are 9 too low", 49 + 9 + 9, 1, tooLow(9, 9));
    }

    private static void partlyAtOnce() {
        // 8 places at once, and two more follow: PARTLY 2 and 16 + 9 + 2
        quick("8 too high", 28 + 2 + 27, 1, lesserOnes(24, 3, 51, 52, 53, 54, 55, 56, 57, 58, 50, 59, 60));
        // 9 places, and one more follows: it gives up, as above
        quick("9 too high", 28 + 2 + 27 + 2 + 19, 1, lesserOnes(24, 3, NINE_TOO_HIGH));
        // 9 places, and none follows: PARTLY 2 and 18 + 10
        quick("9 too high, the last", 28 + 2 + 28, 1, lesserOnes(24, 3, 40, 51, 52, 53, 54, 55, 56, 57, 58, 59, 50));
    }
}
