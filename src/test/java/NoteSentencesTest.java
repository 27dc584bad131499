/** Promises 5 to 8, and "Terms" at "==== 1" for them: each sentence that names a boundary case. */
public final class NoteSentencesTest {
    private static final int UNKNOWN = Trial.UNKNOWN, OUTSIDE = Trial.OUTSIDE;
    private static final int[] FAR = {Integer.MIN_VALUE, Integer.MIN_VALUE + 1, -1000001, 1 << 16, Integer.MAX_VALUE - 1, Integer.MAX_VALUE};
    private static final String FULL = "3 5 7 11 13 ".repeat(4) + "3 5 7 12";

    public static void main(String[] args) throws IllegalAccessException {
        Sentences.runAll(NoteSentencesTest.class);
    }

    // ---- Promise 5: steps

    @Sentence("(n from 1 to 24) .. How many STEPS the SCALE has.")
    private static void promise5_from1To24() {
        Trial chains = new Trial().steps(1);
        for (int n = 24; n >= 1; n--) {
            chains.chain(n, n, 0, 1).steps(n);
            Trial.of("3/2 ".repeat(n - 1) + "2", n).steps(n);
        }
    }

    @Sentence("How many STEPS the SCALE has.")
    private static void promise5_refusedCallsLeaveThem() {
        Trial.of("3/2 5/4 2", 3).chain(OUTSIDE, 25).steps(3).chain(OUTSIDE, 0).steps(3).read(-12).steps(3)
            .spell("3 5 7 2 14").steps(3).read(-15).steps(3);
    }

    // ---- Promise 6: exponent

    @Sentence("An EXPONENT (PRIME 0 to 5) of a STEP")
    private static void promise6_eachPrimeOfEachStep() {
        Trial.of("2 3 5 7 11 13 30030/1 1/30030 2", 9).note(0).note(1, 1).note(2, 0, 1).note(3, 0, 0, 1).note(4, 0, 0, 0, 1)
            .note(5, 0, 0, 0, 0, 1).note(6, 0, 0, 0, 0, 0, 1).note(7, 1, 1, 1, 1, 1, 1).note(8, -1, -1, -1, -1, -1, -1);
    }

    @Sentence("A NOTE has an EXPONENT (a whole number) for each")
    private static void promise6_theGreatestAndTheLeastExponents() {
        Trial.of("524288 531441 390625 823543 161051 371293 2", 7)
            .note(1, 19).note(2, 0, 12).note(3, 0, 0, 8).note(4, 0, 0, 0, 7).note(5, 0, 0, 0, 0, 5).note(6, 0, 0, 0, 0, 0, 5);
        Trial.of("1/524288 1/531441 1/390625 1/823543 1/161051 1/371293 2", 7)
            .note(1, -19).note(2, 0, -12).note(3, 0, 0, -8).note(4, 0, 0, 0, -7).note(5, 0, 0, 0, 0, -5).note(6, 0, 0, 0, 0, 0, -5);
        new Trial().chain(24, 24, 2, 2, 2, 2, 2, 2).note(1, -638, 46, 46, 46, 46, 46);
    }

    @Sentence("it stands for the product of the PRIMES to their EXPONENTS")
    private static void promise6_aFractionThatIsNotInLeastTerms() {
        Trial.of("6/4 990000/900900 1001/1001 4/2", 4).note(1, -1, 1).note(2, 2, 0, 2, -1, 0, -1).note(3).note(4, 1);
    }

    @Sentence("of a STEP (n: of the PERIOD)")
    private static void promise6_thePeriodBehindTheLastStep() {
        new Trial().note(1, 1);
        for (int period = 2; period <= 13; period++) {
            Trial.of("" + period, 1).note(1, period % 8 == 0 ? 3 : period % 4 == 0 ? 2 : period % 2 == 0 ? 1 : 0,
                period % 9 == 0 ? 2 : period % 3 == 0 ? 1 : 0, period % 5 == 0 ? 1 : 0, period == 7 ? 1 : 0,
                period == 11 ? 1 : 0, period == 13 ? 1 : 0);
        }
        Trial.of(FULL, 24).note(23, 0, 0, 0, 1).note(24, 2, 1).exponent(25, 0, UNKNOWN);
        Trial.of("3/2 10", 2).chain(24, 24, 0, 0, 0, 0, 1).note(24, 1, 0, 1).chain(1, 1).note(1, 1, 0, 1);
    }

    @Sentence("UNKNOWN (a STEP that there is not)")
    private static void promise6_stepsThatThereAreNot() {
        new Trial().exponent(2, 0, UNKNOWN).exponent(-1, 0, UNKNOWN);
        Trial scale = Trial.of("3/2 5/4 2", 3).exponent(4, 0, UNKNOWN).exponent(-1, 5, UNKNOWN).exponent(24, 0, UNKNOWN);
        for (int far : FAR) {
            scale.exponent(far, 0, UNKNOWN);
        }
        Trial.of(FULL, 24).exponent(25, 0, UNKNOWN).exponent(26, 0, UNKNOWN).exponent(-1, 0, UNKNOWN)
            .chain(2, 2, 0, 1).exponent(3, 0, UNKNOWN).exponent(24, 0, UNKNOWN);
    }

    @Sentence("OUTSIDE (another number out of its bounds) .. An EXPONENT (PRIME 0 to 5)")
    private static void promise6_primesThatThereAreNot() {
        Trial scale = Trial.of("3/2 13/8 2", 3);
        for (int step = 0; step <= 3; step++) {
            scale.exponent(step, -1, OUTSIDE).exponent(step, 6, OUTSIDE).exponent(step, 7, OUTSIDE);
        }
        for (int far : FAR) {
            scale.exponent(2, far, OUTSIDE);
        }
        scale.exponent(2, 0, -3).exponent(2, 5, 1);
    }

    @Sentence("the first of these that fits: UNKNOWN .., OUTSIDE")
    private static void promise6_unknownAheadOfOutside() {
        Trial.of("3/2 2", 2).exponent(3, 6, UNKNOWN).exponent(3, -1, UNKNOWN).exponent(-1, 6, UNKNOWN).exponent(-1, -1, UNKNOWN)
            .exponent(2, 6, OUTSIDE);
    }

    // ---- Promise 7: key

    private static int downTo(int k, int n) {
        int periods = -300;
        while ((periods + 1) * n <= k) {
            periods++;
        }
        return periods;
    }

    /** Each KEY of a SCALE for one PRIME, by the EXPONENTS of its STEPS and of its PERIOD. */
    private static void dueKeys(String text, int prime, int period, int... steps) {
        Trial scale = Trial.of(text, steps.length);
        for (int k = -200; k <= 200; k++) {
            int periods = downTo(k, steps.length);
            scale.key(k, prime, steps[k - periods * steps.length] + periods * period);
        }
    }

    @Sentence("KEY k (-200 to 200): with n STEPS, and k = q n + r, r from 0 to n - 1, STEP r and q PERIODS")
    private static void promise7_everyKey() {
        dueKeys("8", 0, 3, 0);
        dueKeys("3 2", 0, 1, 0, 0);
        dueKeys("3 2", 1, 0, 0, 1);
        dueKeys("3/2 5 12", 0, 2, 0, -1, 0);
        dueKeys("3/2 5 12", 1, 1, 0, 1, 0);
        dueKeys("3/2 5 12", 2, 0, 0, 0, 1);
        dueKeys("5/13 1/25 7 26/2", 5, 1, 0, -1, 0, 0);
        dueKeys(FULL, 1, 1, 0, 1, 0, 0, 0, 0, 1, 0, 0, 0, 0, 1, 0, 0, 0, 0, 1, 0, 0, 0, 0, 1, 0, 0);
        dueKeys(FULL, 0, 2, new int[24]);
    }

    @Sentence("k = q n + r, r from 0 to n - 1")
    private static void promise7_keysBelow0() {
        Trial.of("3/2 5 12", 3).key(-1, 0, -2).key(-1, 1, -1).key(-1, 2, 1).key(-2, 0, -3).key(-2, 1, 0).key(-3, 0, -2)
            .key(-3, 1, -1).key(-4, 2, 1).key(-4, 0, -4).key(-6, 1, -2).key(-6, 2, 0);
        new Trial().key(-1, 0, -1).key(0, 0, 0).key(1, 0, 1);
    }

    @Sentence("An EXPONENT of KEY k (-200 to 200) .. OUTSIDE.")
    private static void promise7_theBoundsOfAKey() {
        Trial scale = Trial.of("3/2 5 12", 3).key(200, 0, 132).key(200, 2, 1).key(-200, 0, -135).key(-200, 1, -66);
        scale.key(201, 0, OUTSIDE).key(-201, 0, OUTSIDE).key(1000, 5, OUTSIDE).key(-1000, 5, OUTSIDE);
        for (int far : FAR) {
            scale.key(far, 0, OUTSIDE);
        }
        new Trial().key(200, 0, 200).key(-200, 0, -200).key(201, 0, OUTSIDE).key(-201, 0, OUTSIDE);
        Trial.of(FULL, 24).key(200, 0, 16).key(200, 3, 1).key(-200, 0, -18).key(201, 0, OUTSIDE).key(-201, 0, OUTSIDE);
    }

    @Sentence("PRIMES 0 to 5 .. An EXPONENT of KEY k .. OUTSIDE.")
    private static void promise7_primesThatThereAreNot() {
        Trial scale = Trial.of("13/8 2", 2).key(1, 0, -3).key(1, 5, 1).key(1, -1, OUTSIDE).key(1, 6, OUTSIDE)
            .key(201, 6, OUTSIDE).key(-201, -1, OUTSIDE);
        for (int far : FAR) {
            scale.key(0, far, OUTSIDE);
        }
    }

    @Sentence("STEP r and q PERIODS")
    private static void promise7_theScaleThatThereIs() {
        Trial.of("3/2 5 12", 3).chain(2, 2, 0, 0, 0, 1).key(3, 3, 1).key(3, 0, 2).key(-1, 3, 1).key(-1, 1, -1)
            .spell("7 3").read(2).key(-1, 1, -1).key(-1, 0, 0).key(5, 3, 1).key(5, 1, 2);
        new Trial().chain(24, 24, 2, 2, 2, 2, 2, 2).key(-200 + 9, 0, -638 - 8).key(193, 0, -638 + 8).key(193, 5, 46);
    }

    // ---- Promise 8: compare

    @Sentence("A STEP is HIGHER than another one (1), the same (0), lower (-1).")
    private static void promise8_everyPair() {
        int[][] fractions = {{1, 1}, {3, 2}, {1, 2}, {9, 8}, {10, 9}, {7, 1}, {1, 13}, {81, 80}, {80, 81}, {12, 8}, {11, 11}, {2, 1}, {4, 1}};
        StringBuilder text = new StringBuilder();
        for (int i = 1; i < fractions.length; i++) {
            text.append(fractions[i][0]).append('/').append(fractions[i][1]).append(' ');
        }
        Trial scale = Trial.of(text.toString(), fractions.length - 1);
        for (int a = 0; a < fractions.length; a++) {
            for (int b = 0; b < fractions.length; b++) {
                scale.compare(a, b, Integer.compare(fractions[a][0] * fractions[b][1], fractions[b][0] * fractions[a][1]));
            }
        }
    }

    @Sentence("one is HIGHER than another one, if its product is greater")
    private static void promise8_theNearestTwoFractions() {
        long first = 100352L * 444528;
        long second = 432575L * 103125;
        Trial.CHECK.holds("the one is lower", first < second);
        Trial.of("100352/103125 432575/444528 2", 3).compare(1, 2, -1).compare(2, 1, 1);
        Trial.of("123201/123200 123200/123201 2", 3).compare(1, 0, 1).compare(0, 1, -1).compare(2, 0, -1).compare(0, 2, 1);
        Trial.of("999635/524288 531441/524288 999635/998816 2", 4).compare(1, 4, -1).compare(4, 1, 1).compare(2, 3, 1).compare(3, 0, 1);
    }

    @Sentence("the same (0)")
    private static void promise8_equalNotes() {
        Trial.of("3/2 6/4 2/2 3/2 4/2 2", 6).compare(1, 2, 0).compare(2, 1, 0).compare(1, 1, 0).compare(4, 2, 0)
            .compare(0, 3, 0).compare(3, 0, 0).compare(0, 0, 0).compare(5, 6, 0).compare(6, 5, 0).compare(6, 6, 0);
        new Trial().chain(24, 24, 1).compare(0, 23, 0).compare(23, 0, 0).compare(22, 23, 0).compare(23, 24, -1);
    }

    @Sentence("(n: the PERIOD.)")
    private static void promise8_thePeriodBehindTheLastStep() {
        new Trial().compare(0, 1, -1).compare(1, 0, 1).compare(1, 1, 0);
        Trial.of("3/2 5 3", 3).compare(1, 3, -1).compare(3, 1, 1).compare(2, 3, 1).compare(3, 2, -1).compare(3, 3, 0);
        Trial.of(FULL, 24).compare(24, 20, -1).compare(24, 23, 1).compare(23, 24, -1).compare(24, 24, 0);
    }

    @Sentence("UNKNOWN (a STEP that there is not)")
    private static void promise8_stepsThatThereAreNot() {
        new Trial().compare(2, 0, UNKNOWN).compare(0, 2, UNKNOWN).compare(2, 2, UNKNOWN).compare(-1, -1, UNKNOWN);
        Trial scale = Trial.of("3/2 5 3", 3).compare(4, 0, UNKNOWN).compare(0, 4, UNKNOWN).compare(-1, 0, UNKNOWN).compare(0, -1, UNKNOWN);
        for (int far : FAR) {
            scale.compare(far, 0, UNKNOWN).compare(0, far, UNKNOWN).compare(far, far, UNKNOWN);
        }
        Trial.of(FULL, 24).compare(25, 0, UNKNOWN).compare(0, 25, UNKNOWN).chain(2, 2, 0, 1).compare(3, 0, UNKNOWN).compare(0, 24, UNKNOWN);
    }
}
