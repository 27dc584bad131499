/** Promises 14 to 18, and "Terms" at "==== 4" for them: each sentence that names a boundary case. */
public final class PartsSentencesTest {
    private static final int NONE = Trial.NONE, UNKNOWN = Trial.UNKNOWN, OUTSIDE = Trial.OUTSIDE, STATE = Trial.STATE, WIDE = Trial.WIDE;
    private static final int[] FAR = {Integer.MIN_VALUE, Integer.MIN_VALUE + 1, -1000001, 1 << 16, Integer.MAX_VALUE - 1, Integer.MAX_VALUE};
    private static final int[] PRIMES = {2, 3, 5, 7, 11, 13};
    private static final int[][] FRACTIONS = {{1, 1}, {3, 2}, {2, 3}, {81, 80}, {80, 81}, {7, 1}, {1, 13}, {975, 896}, {998400, 1}, {1, 998816}, {1001, 1000}};
    private static final String FULL = "3/2 ".repeat(23) + "2";

    public static void main(String[] args) throws IllegalAccessException {
        Sentences.runAll(PartsSentencesTest.class);
    }

    private static String fractions() {
        StringBuilder text = new StringBuilder();
        for (int step = 1; step < FRACTIONS.length; step++) {
            text.append(FRACTIONS[step][0]).append('/').append(FRACTIONS[step][1]).append(' ');
        }
        return text.toString();
    }

    /** The DEGREE by floating point, for NOTES that are not too near to the middle between two parts. */
    private static int nearest(double above, double below, int period, int m) {
        double parts = m * (Math.log(above) - Math.log(below)) / Math.log(period);
        double middle = Math.abs(parts - Math.floor(parts) - 0.5);
        boolean square = period == 4 || period == 9;
        Trial.CHECK.holds("far enough from the middle, or in it: " + above + "/" + below + " of " + period, middle > 1e-5 || square && middle < 1e-11);
        return (int) Math.ceil(parts - 0.5 - 1e-9);
    }

    private static int made(int above, int below, int period, int m) {
        int sum = 0;
        for (int prime : PRIMES) {
            for (int rest = above; rest % prime == 0; rest /= prime) {
                sum += nearest(prime, 1, period, m);
            }
            for (int rest = below; rest % prime == 0; rest /= prime) {
                sum -= nearest(prime, 1, period, m);
            }
        }
        return sum;
    }

    // ---- Promise 14: degree

    @Sentence("The DEGREE of a NOTE is the whole number of parts that is nearest to it")
    private static void promise14_theNearest() {
        for (int period = 2; period <= 13; period++) {
            for (int m = 1; m <= 36; m++) {
                if (m % 12 == 1) {
                    scaleDegrees(period, m);
                }
            }
        }
        Trial.of("9/8 5/4 4/3 3/2 5/3 15/8 2", 7).degree(1, 12, 2).degree(2, 12, 4).degree(3, 12, 5).degree(4, 12, 7).degree(5, 12, 9)
            .degree(6, 12, 11).degree(1, 31, 5).degree(2, 31, 10).degree(3, 31, 13).degree(4, 31, 18).degree(5, 31, 23).degree(6, 31, 28);
    }

    private static void scaleDegrees(int period, int firstM) {
        Trial scale = Trial.of(fractions() + period, FRACTIONS.length);
        for (int m = firstM; m < firstM + 12; m++) {
            for (int step = 0; step < FRACTIONS.length; step++) {
                scale.degree(step, m, nearest(FRACTIONS[step][0], FRACTIONS[step][1], period, m));
            }
        }
    }

    @Sentence("of two as near the lesser (it may be below 0)")
    private static void promise14_ofTwoAsNearTheLesser() {
        Trial.of("2 1/2 8 1/8 4 1/4 4", 7).degree(1, 1, 0).degree(2, 1, -1).degree(3, 1, 1).degree(4, 1, -2).degree(5, 1, 1).degree(6, 1, -1)
            .degree(1, 3, 1).degree(2, 3, -2).degree(1, 35, 17).degree(2, 35, -18).degree(3, 35, 52).degree(4, 35, -53)
            .degree(1, 2, 1).degree(2, 2, -1).degree(1, 36, 18).degree(2, 36, -18);
        for (int power = 0; power <= 19; power++) {
            Trial halves = Trial.of((1 << power) + " 1/" + (1 << power) + " 4", 3);
            for (int m = 1; m <= 36; m++) {
                halves.degree(1, m, power * m / 2).degree(2, m, -((power * m + 1) / 2));
            }
        }
        Trial.of("3 1/3 27 1/27 9", 5).degree(1, 1, 0).degree(2, 1, -1).degree(3, 1, 1).degree(4, 1, -2).degree(1, 35, 17).degree(2, 35, -18);
    }

    @Sentence("the whole number of parts that is nearest to it")
    private static void promise14_aLittleBesideTheMiddle() {
        // the nearest to a middle that fractions of 6 digits come: 35.5, 26.5, -57.5 parts, but for some 1e-8
        Trial.of("1144/147 1323/286 143/3969 286/1323 147/1144 3969/143 6", 7).degree(1, 31, 35).degree(2, 31, 27).degree(3, 31, -58)
            .degree(4, 31, -27).degree(5, 31, -35).degree(6, 31, 58);
        Trial.of("2197/2450 2450/2197 11", 3).degree(1, 11, 0).degree(2, 11, 0);
    }

    @Sentence("(it may be below 0)")
    private static void promise14_below0() {
        Trial.of("1/2 2/3 1/13 1/998816 2", 5).degree(1, 1, -1).degree(1, 36, -36).degree(2, 12, -7).degree(3, 1, -4).degree(4, 36, -717);
    }

    @Sentence("The PERIOD is parted into m equal parts")
    private static void promise14_unisonAndThePeriodItself() {
        for (int period = 2; period <= 13; period++) {
            Trial scale = Trial.of(period + " 1/" + period + " " + period * period + " 1 " + period, 5);
            for (int m = 1; m <= 36; m++) {
                scale.degree(0, m, 0).degree(1, m, m).degree(2, m, -m).degree(3, m, 2 * m).degree(4, m, 0);
            }
        }
    }

    @Sentence("The PERIOD is parted into m equal parts (1 to 36). .. The DEGREE of a STEP in m parts. .. OUTSIDE.")
    private static void promise14_1And36Parts() {
        Trial scale = Trial.of("3/2 7 2", 3).degree(1, 1, 1).degree(2, 1, 3).degree(1, 36, 21).degree(2, 36, 101).degree(1, 2, 1).degree(1, 35, 20)
            .degree(1, 0, OUTSIDE).degree(1, 37, OUTSIDE).degree(1, -1, OUTSIDE).degree(0, 0, OUTSIDE).degree(0, 37, OUTSIDE);
        for (int far : FAR) {
            scale.degree(1, far, OUTSIDE);
        }
    }

    @Sentence("UNKNOWN (a STEP that there is not)")
    private static void promise14_stepsThatThereAreNot() {
        new Trial().degree(0, 12, 0).degree(1, 12, UNKNOWN).degree(-1, 12, UNKNOWN);
        Trial scale = Trial.of("3/2 2", 2).degree(2, 12, UNKNOWN).degree(3, 12, UNKNOWN).degree(-1, 12, UNKNOWN);
        for (int far : FAR) {
            scale.degree(far, 12, UNKNOWN);
        }
        Trial.of(FULL, 24).degree(23, 12, 7).degree(24, 12, UNKNOWN).chain(2, 2, 0, 1).degree(1, 12, 7).degree(2, 12, UNKNOWN);
    }

    @Sentence("the first of these that fits: UNKNOWN .., OUTSIDE")
    private static void promise14_unknownAheadOfOutside() {
        Trial.of("3/2 2", 2).degree(2, 0, UNKNOWN).degree(2, 37, UNKNOWN).degree(-1, 0, UNKNOWN).degree(-1, 37, UNKNOWN);
    }

    @Sentence("The DEGREE of a STEP in m parts.")
    private static void promise14_stepsOfTheLongestChain() {
        Trial chain = new Trial().chain(24, 24, 2, 2, 2, 2, 2, 2);
        int[] degrees = {0, 8, 8, 8, 8, 9, 9, 17, 17, 17, 17, 18, 18, 26, 26, 26, 26, 27, 27, 35, 35, 35, 35, 36};
        for (int step = 0; step < 24; step++) {
            chain.degree(step, 36, degrees[step]);
        }
    }

    // ---- Promise 15: prime

    @Sentence("The DEGREE of a PRIME in m parts.")
    private static void promise15_everyPrimeOfEveryPeriod() {
        for (int period = 2; period <= 13; period++) {
            Trial scale = Trial.of("" + period, 1);
            for (int m = 1; m <= 36; m++) {
                for (int prime = 0; prime < 6; prime++) {
                    scale.prime(prime, m, nearest(PRIMES[prime], 1, period, m));
                }
            }
        }
        new Trial().prime(0, 12, 12).prime(1, 12, 19).prime(2, 12, 28).prime(3, 12, 34).prime(4, 12, 42).prime(5, 12, 44)
            .prime(0, 31, 31).prime(1, 31, 49).prime(2, 31, 72).prime(3, 31, 87).prime(4, 31, 107).prime(5, 31, 115);
    }

    @Sentence("of two as near the lesser")
    private static void promise15_ofTwoAsNearTheLesser() {
        Trial four = Trial.of("4", 1);
        Trial nine = Trial.of("9", 1);
        for (int m = 1; m <= 36; m++) {
            four.prime(0, m, m / 2);
            nine.prime(1, m, m / 2);
        }
    }

    @Sentence("The PERIOD is parted into m equal parts (1 to 36). .. The DEGREE of a PRIME in m parts. OUTSIDE.")
    private static void promise15_1And36Parts() {
        Trial scale = new Trial().prime(0, 1, 1).prime(1, 1, 2).prime(5, 1, 4).prime(0, 36, 36).prime(1, 36, 57).prime(5, 36, 133)
            .prime(0, 0, OUTSIDE).prime(0, 37, OUTSIDE).prime(5, 0, OUTSIDE).prime(5, 37, OUTSIDE).prime(0, -1, OUTSIDE);
        for (int far : FAR) {
            scale.prime(0, far, OUTSIDE);
        }
    }

    @Sentence("PRIMES 0 to 5 .. The DEGREE of a PRIME in m parts. OUTSIDE.")
    private static void promise15_primesThatThereAreNot() {
        Trial scale = new Trial().prime(-1, 12, OUTSIDE).prime(6, 12, OUTSIDE).prime(-1, 1, OUTSIDE).prime(6, 36, OUTSIDE).prime(6, 37, OUTSIDE).prime(-1, 0, OUTSIDE);
        for (int far : FAR) {
            scale.prime(far, 12, OUTSIDE);
        }
    }

    @Sentence("The PERIOD is parted into m equal parts")
    private static void promise15_thePeriodThatThereIs() {
        new Trial().prime(1, 12, 19).spell("3").read(1).prime(1, 12, 12).prime(0, 12, 8).spell("14").read(-15).prime(1, 12, 12)
            .chain(24, 24, 0, 0, 1).prime(1, 12, 12).prime(0, 12, 8).chain(OUTSIDE, 0).prime(0, 12, 8).spell("2").read(1).prime(1, 12, 19).prime(0, 12, 12);
    }

    // ---- Promise 16: makes

    @Sentence("What m parts MAKE of a NOTE is the sum of its EXPONENTS, each times the DEGREE of that PRIME.")
    private static void promise16_theSum() {
        for (int period = 2; period <= 13; period++) {
            for (int m = 1; m <= 36; m++) {
                if (m % 12 == 1) {
                    scaleMakes(period, m);
                }
            }
        }
        Trial.of("81/80 128/125 13/11 2", 4).makes(1, 12, 0).makes(1, 22, 1).makes(2, 12, 0).makes(2, 19, 1).makes(3, 12, 2);
    }

    private static void scaleMakes(int period, int firstM) {
        Trial scale = Trial.of(fractions() + period, FRACTIONS.length);
        for (int m = firstM; m < firstM + 12; m++) {
            for (int step = 0; step < FRACTIONS.length; step++) {
                scale.makes(step, m, made(FRACTIONS[step][0], FRACTIONS[step][1], period, m));
            }
        }
    }

    @Sentence("each times the DEGREE of that PRIME")
    private static void promise16_notTheDegreeOfTheStep() {
        Trial.of("13/11 4 4", 3).makes(2, 1, 0).degree(2, 1, 1).makes(2, 3, 2).degree(2, 3, 3);
        Trial.of("13/11 2", 2).makes(1, 12, 2).degree(1, 12, 3);
        Trial.of("1/2 9", 2).makes(1, 1, 0).degree(1, 1, 0);
        Trial.of("1/2 4", 2).makes(1, 1, 0).degree(1, 1, -1);
    }

    @Sentence("the sum of its EXPONENTS, each times the DEGREE")
    private static void promise16_unisonAndEachPrime() {
        Trial scale = Trial.of("2 3 5 7 11 13 1/2 1/3 1/5 1/7 1/11 1/13 2", 13).makes(0, 1, 0).makes(0, 36, 0);
        int[] thirtySix = {36, 57, 84, 101, 125, 133};
        for (int prime = 0; prime < 6; prime++) {
            scale.makes(1 + prime, 36, thirtySix[prime]).makes(7 + prime, 36, -thirtySix[prime]);
        }
    }

    @Sentence("the sum of its EXPONENTS, each times the DEGREE")
    private static void promise16_stepsOfTheLongestChain() {
        Trial chain = new Trial().chain(24, 24, 2, 2, 2, 2, 2, 2);
        int[] sums = {0, 32, 28, 24, 20, 16, 12, 40, 36, 32, 28, 24, 20, 48, 44, 40, 36, 32, 28, 56, 52, 48, 44, 40};
        for (int step = 0; step < 24; step++) {
            chain.makes(step, 36, sums[step]);
        }
    }

    @Sentence("The PERIOD is parted into m equal parts (1 to 36). .. What m parts MAKE of a STEP. UNKNOWN; OUTSIDE.")
    private static void promise16_1And36Parts() {
        Trial scale = Trial.of("3/2 2", 2).makes(1, 1, 1).makes(1, 36, 21).makes(1, 0, OUTSIDE).makes(1, 37, OUTSIDE).makes(1, -1, OUTSIDE)
            .makes(0, 0, OUTSIDE).makes(0, 37, OUTSIDE);
        for (int far : FAR) {
            scale.makes(1, far, OUTSIDE);
        }
    }

    @Sentence("UNKNOWN (a STEP that there is not)")
    private static void promise16_stepsThatThereAreNot() {
        new Trial().makes(0, 12, 0).makes(1, 12, UNKNOWN).makes(-1, 12, UNKNOWN);
        Trial scale = Trial.of("3/2 2", 2).makes(2, 12, UNKNOWN).makes(3, 12, UNKNOWN).makes(-1, 12, UNKNOWN);
        for (int far : FAR) {
            scale.makes(far, 12, UNKNOWN);
        }
        Trial.of(FULL, 24).makes(23, 12, 7).makes(24, 12, UNKNOWN).chain(2, 2, 0, 1).makes(1, 12, 7).makes(2, 12, UNKNOWN);
    }

    @Sentence("the first of these that fits: UNKNOWN .., OUTSIDE")
    private static void promise16_unknownAheadOfOutside() {
        Trial.of("3/2 2", 2).makes(2, 0, UNKNOWN).makes(2, 37, UNKNOWN).makes(-1, 0, UNKNOWN).makes(-1, 37, UNKNOWN);
    }

    // ---- Promise 17: tempers

    @Sentence("The least m for which m parts MAKE 0 of a STEP")
    private static void promise17_theLeast() {
        Trial.of("81/80 531441/524288 9/8 128/125 2", 5).tempers(1, 5).tempers(2, 12).tempers(3, 2).tempers(4, 3)
            .makes(1, 5, 0).makes(1, 12, 0).makes(1, 4, -1).makes(1, 3, 1).makes(1, 2, -1).makes(1, 1, 2);
        for (int period = 2; period <= 13; period++) {
            Trial scale = Trial.of(fractions() + period, FRACTIONS.length);
            for (int step = 0; step < FRACTIONS.length; step++) {
                int least = NONE;
                for (int m = 36; m >= 1; m--) {
                    least = made(FRACTIONS[step][0], FRACTIONS[step][1], period, m) == 0 ? m : least;
                }
                scale.tempers(step, least);
            }
        }
    }

    @Sentence("m equal parts (1 to 36) .. The least m for which m parts MAKE 0 of a STEP")
    private static void promise17_1And36() {
        Trial.of("975/896 896/975 10", 3).tempers(0, 1).tempers(1, 36).tempers(2, 36).makes(1, 36, 0);
        new Trial().tempers(0, 1);
        Trial.of("5/5 4/3 9", 3).tempers(1, 1).tempers(2, 1).makes(2, 1, 0).makes(2, 2, 1);
        Trial.of("1/2 2 13", 3).tempers(1, 1).tempers(2, 1);
    }

    @Sentence("NONE: there is none")
    private static void promise17_none() {
        Trial.of("2 1/2 3/2 7 2", 5).tempers(1, NONE).tempers(2, NONE).tempers(3, NONE).tempers(4, NONE);
        // 37 parts would be the first to make 0 of these
        Trial.of("4608/4459 4459/4608 5", 3).tempers(1, NONE).tempers(2, NONE);
        Trial.of("6656/5445 6", 2).tempers(1, NONE);
        Trial.of("6144/5915 10", 2).tempers(1, NONE);
    }

    @Sentence("m parts MAKE 0 of a STEP")
    private static void promise17_stepsOfTheLongestChain() {
        Trial chain = new Trial().chain(24, 24, 2, 2, 2, 2, 2, 2);
        int[] least = {1, 23, NONE, NONE, 22, 7, NONE, 22, NONE, 7, 20, NONE, 4, 7, NONE, 13, NONE, NONE, NONE, 20, NONE, NONE, 16, 4};
        for (int step = 0; step < 24; step++) {
            chain.tempers(step, least[step]);
        }
    }

    @Sentence("UNKNOWN (a STEP that there is not)")
    private static void promise17_stepsThatThereAreNot() {
        new Trial().tempers(1, UNKNOWN).tempers(-1, UNKNOWN);
        Trial scale = Trial.of("81/80 2", 2).tempers(1, 5).tempers(2, UNKNOWN).tempers(3, UNKNOWN).tempers(-1, UNKNOWN);
        for (int far : FAR) {
            scale.tempers(far, UNKNOWN);
        }
        Trial.of(FULL, 24).tempers(23, NONE).tempers(24, UNKNOWN).chain(2, 2, 0, 1).tempers(1, NONE).tempers(2, UNKNOWN);
    }

    // ---- Promise 18: term

    @Sentence("A TERM is how many times y may be taken from x, so that it is not below UNISON; x is what is left")
    private static void promise18_terms() {
        Trial.of("3/2 3 999635 2", 4).terms(1, 0, 1, 1, 2, 2, 3, 1, WIDE).terms(2, 1, 1, 1, 2, 2, 3, 1, WIDE).term(3, 0, 19);
        Trial.of("3/2 4", 2).terms(1, 0, 3, 2, 2, 1, 1, 2, WIDE);
        Trial.of("78/77 13", 2).terms(1, 0, 198, 1, WIDE);
    }

    @Sentence("TERM i (0 to 9) of a STEP .. OUTSIDE")
    private static void promise18_terms0And9() {
        Trial scale = Trial.of("20/13 65/21 2", 3).terms(1, 0, 1, 1, 1, 1, 1, 3, 1, 4, 1, OUTSIDE, OUTSIDE).terms(2, 1, 1, 1, 1, 2, 2, 1, 2, 1, 1, OUTSIDE)
            .term(1, -1, OUTSIDE).term(1, -2, OUTSIDE).term(2, -1, OUTSIDE);
        for (int far : FAR) {
            scale.term(1, far, OUTSIDE);
        }
    }

    @Sentence("If that is UNISON there are no more TERMS .. NONE: there are not so many")
    private static void promise18_noMoreTerms() {
        Trial.of("2 4 8 524288 2", 5).terms(1, 1, NONE, NONE, NONE, NONE, NONE, NONE, NONE, NONE, NONE, OUTSIDE).terms(2, 2, NONE).terms(3, 3, NONE)
            .terms(4, 19, NONE).term(4, 9, NONE);
        Trial.of("2 8 4", 3).terms(1, 0, 2, NONE, NONE).terms(2, 1, 2, NONE, NONE).term(1, 9, NONE);
        Trial.of("4 32 256 2 8", 5).terms(1, 0, 1, 2, NONE, NONE).terms(2, 1, 1, 2, NONE).terms(3, 2, 1, 2, NONE).terms(4, 0, 3, NONE).term(3, 9, NONE);
        Trial.of("3 27 9", 3).terms(1, 0, 2, NONE).terms(2, 1, 2, NONE);
        Trial.of("12 144 12", 3).terms(1, 1, NONE).terms(2, 2, NONE);
    }

    @Sentence("WIDE, .. when .. what is left has an EXPONENT above 400")
    private static void promise18_wide_400IsNotYet() {
        Trial.of("4455/1 2", 2).terms(1, 12, 8, 3, 1, WIDE);
        Trial.of("605/28 3", 2).terms(1, 2, 1, 3, 1, 13, 2, WIDE);
        Trial.of("3125/352 3", 2).terms(1, 1, 1, 79, WIDE);
        Trial.of("2401/125 3", 2).terms(1, 2, 1, 2, 4, 2, 2, 1, WIDE);
        Trial.of("1690/121 7", 2).terms(1, 1, 2, 1, 4, 2, 6, WIDE);
        Trial.of("1521/605 4", 2).terms(1, 0, 1, 1, 1, 66, WIDE);
    }

    @Sentence("WIDE, .. when .. what is left has an EXPONENT above 400")
    private static void promise18_wide_401ByEachPrime() {
        Trial.of("3125/3 2", 2).terms(1, 10, WIDE);
        Trial.of("385/1 3", 2).terms(1, 5, 2, 2, 1, 1, 2, 1, WIDE);
        Trial.of("242/3 5", 2).terms(1, 2, 1, 2, 1, 2, WIDE);
        Trial.of("65/49 2", 2).terms(1, 0, 2, 2, 4, 1, 4, 1, WIDE);
        Trial.of("121/91 2", 2).terms(1, 0, 2, 2, 3, 4, 1, WIDE);
        Trial.of("3025/12 13", 2).terms(1, 2, 6, 2, 2, 2, WIDE);
    }

    @Sentence("WIDE, .. when .. what is left has an EXPONENT .. below -400")
    private static void promise18_wide_minus400IsNotYet() {
        Trial.of("5577/125 2", 2).terms(1, 5, 2, 11, 1, 2, WIDE);
        Trial.of("91/10 3", 2).terms(1, 2, 99, 2, WIDE);
        Trial.of("819/625 2", 2).terms(1, 0, 2, 1, 1, 3, 2, 2, WIDE);
        Trial.of("2401/2288 5", 2).terms(1, 0, 33, 2, 1, WIDE);
        Trial.of("3025/819 2", 2).terms(1, 1, 1, 7, 1, 2, 3, 1, 1, WIDE);
        Trial.of("1690/121 7", 2).terms(1, 1, 2, 1, 4, 2, 6, WIDE);
    }

    @Sentence("WIDE, .. when .. what is left has an EXPONENT .. below -400")
    private static void promise18_wide_minus401ByEachPrime() {
        Trial.of("351/7 2", 2).terms(1, 5, 1, 1, 1, 5, 3, WIDE);
        Trial.of("143/35 3", 2).terms(1, 1, 3, 1, 1, 3, 1, WIDE);
        Trial.of("4356/13 5", 2).terms(1, 3, 1, 1, 1, 1, 2, 1, 1, WIDE);
        Trial.of("975/11 7", 2).terms(1, 2, 3, 3, 1, 1, 6, WIDE);
        Trial.of("2925/14 11", 2).terms(1, 2, 4, 2, 1, 1, 3, WIDE);
        Trial.of("169/77 2", 2).terms(1, 1, 7, 2, 5, 2, WIDE);
    }

    @Sentence("WIDE, .. when x .. has an EXPONENT above 400 or below -400")
    private static void promise18_wide_theStepItself() {
        new Trial().chain(24, 24, -2, -2, -2, -1, -2, -2).exponent(23, 0, 400).terms(23, 0, 1, WIDE, WIDE);
        new Trial().chain(24, 24, -2, 0, -1, -2, -2, -2).exponent(8, 0, 401).terms(8, WIDE, WIDE).term(8, 9, WIDE);
        new Trial().chain(24, 24, -2, 0, 2, 2, 1, 1).exponent(15, 0, -400).terms(15, 0, WIDE, WIDE);
        new Trial().chain(24, 24, -2, 2, 1, 2, 1, 1).exponent(20, 0, -401).terms(20, WIDE, WIDE).term(20, 9, WIDE);
    }

    @Sentence("A TERM is WIDE, it and all behind it")
    private static void promise18_wide_allBehindIt() {
        Trial.of("3/2 123201/123200 81/80 3125/3 2", 5).terms(1, 0, 1, 1, 2, 2, 3, 1, WIDE, WIDE, WIDE)
            .terms(2, 0, WIDE, WIDE, WIDE, WIDE, WIDE, WIDE, WIDE, WIDE, WIDE)
            .terms(4, 10, WIDE, WIDE, WIDE, WIDE, WIDE, WIDE, WIDE, WIDE, WIDE, OUTSIDE);
    }

    @Sentence("STATE: it is not HIGHER than UNISON.")
    private static void promise18_state() {
        Trial.of("1 1/2 13/13 123200/123201 123201/123200 1/998816 2", 7).term(0, 0, STATE).term(0, 9, STATE).term(1, 0, STATE).term(1, 9, STATE)
            .term(2, 0, STATE).term(2, 5, STATE).term(3, 0, STATE).term(4, 0, STATE).term(4, 9, STATE).term(5, 0, 0).term(5, 1, WIDE).term(6, 0, STATE);
        new Trial().term(0, 0, STATE).chain(24, 24, 1).term(23, 0, STATE).term(23, 9, STATE);
    }

    @Sentence("UNKNOWN (a STEP that there is not)")
    private static void promise18_stepsThatThereAreNot() {
        new Trial().term(1, 0, UNKNOWN).term(-1, 0, UNKNOWN);
        Trial scale = Trial.of("3/2 2", 2).term(1, 0, 0).term(2, 0, UNKNOWN).term(3, 0, UNKNOWN).term(-1, 0, UNKNOWN);
        for (int far : FAR) {
            scale.term(far, 0, UNKNOWN);
        }
        Trial.of(FULL, 24).term(23, 1, 1).term(24, 1, UNKNOWN).chain(2, 2, 0, 1).term(1, 1, 1).term(2, 1, UNKNOWN);
    }

    @Sentence("the first of these that fits: UNKNOWN .., OUTSIDE .., STATE")
    private static void promise18_unknownAheadOfOutsideAheadOfState() {
        Trial.of("1/2 1 2", 3).term(3, 10, UNKNOWN).term(3, -1, UNKNOWN).term(-1, 10, UNKNOWN).term(-1, -1, UNKNOWN)
            .term(0, 10, OUTSIDE).term(0, -1, OUTSIDE).term(1, 10, OUTSIDE).term(1, -1, OUTSIDE).term(2, 10, OUTSIDE).term(2, 9, STATE);
    }
}
