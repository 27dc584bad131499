import java.util.Arrays;
import java.util.List;

/** Promises 9 to 13, and "Terms" at "==== 3" for them: each sentence that names a boundary case. */
public final class PeriodSentencesTest {
    private static final int NONE = Trial.NONE, UNKNOWN = Trial.UNKNOWN, OUTSIDE = Trial.OUTSIDE;
    private static final int[] FAR = {Integer.MIN_VALUE, Integer.MIN_VALUE + 1, -1000001, 1 << 16, Integer.MAX_VALUE - 1, Integer.MAX_VALUE};
    private static final String DIFFERENT = "27/14 12/11 21/13 49/40 56/33 55/49 49/32 52/45 11/9 39/32 50/33 42/25 "
        + "25/21 33/26 11/6 55/52 32/27 54/49 25/24 35/27 32/25 40/21 8/7 2";

    public static void main(String[] args) throws IllegalAccessException {
        Sentences.runAll(PeriodSentencesTest.class);
    }

    private static String fraction(long above, long below) {
        return above + "/" + below + " ";
    }

    // ---- Promise 9: reduce

    @Sentence("so many PERIODS are taken from it (below 0: added) that it is not below UNISON, and the PERIOD is HIGHER")
    private static void promise9_aNoteThatIsSoManyPeriods() {
        for (int period = 2; period <= 13; period++) {
            for (int times = 0; Math.pow(period, times) < 1000000; times++) {
                long power = Math.round(Math.pow(period, times));
                Trial.of(fraction(power, 1) + fraction(1, power) + period, 3).reduce(1, times).reduce(2, -times).gaps(2);
            }
        }
        Trial.of("1 2 4 1/2 1/4 2", 6).reduce(0, 0).reduce(1, 0).reduce(2, 1).reduce(3, 2).reduce(4, -1).reduce(5, -2);
    }

    @Sentence("that it is not below UNISON, and the PERIOD is HIGHER")
    private static void promise9_aLittleAboveAndBelowSoManyPeriods() {
        for (int period = 2; period <= 13; period++) {
            for (int times = 0; times <= 3; times++) {
                long power = Math.round(Math.pow(period, times));
                String text = fraction(225 * power, 224) + fraction(224 * power, 225) + fraction(225, 224 * power) + fraction(224, 225 * power);
                Trial.of(text + period, 5).reduce(1, times).reduce(2, times - 1).reduce(3, -times).reduce(4, -times - 1);
            }
        }
        Trial.of("246402/123200 246400/123201 123201/123200 123200/123201 2", 5).reduce(1, 1).reduce(2, 0).reduce(3, 0).reduce(4, -1);
    }

    @Sentence("so many PERIODS are taken from it (below 0: added) .. How many PERIODS are taken from a STEP that it is REDUCED.")
    private static void promise9_notesBelowUnison() {
        Trial.of("9/10 1/3 1/9 1/10 1/27 1/28 3", 7).reduce(1, -1).reduce(2, -1).reduce(3, -2).reduce(4, -3).reduce(5, -3).reduce(6, -4);
    }

    @Sentence("How many PERIODS are taken from a STEP that it is REDUCED.")
    private static void promise9_theMost() {
        Trial.of("999635 1/999635 524288 1/524288 2", 5).reduce(1, 19).reduce(2, -20).reduce(3, 19).reduce(4, -19);
        Trial.of("999635 1/999635 13", 3).reduce(1, 5).reduce(2, -6);
    }

    @Sentence("A CHAIN .. each REDUCED")
    private static void promise9_0InAChain() {
        Trial chain = new Trial().chain(24, 24, -2, -2, -2, -2, -2, -2);
        for (int step = 0; step < 24; step++) {
            chain.reduce(step, 0);
        }
    }

    @Sentence("UNKNOWN (a STEP that there is not)")
    private static void promise9_stepsThatThereAreNot() {
        new Trial().reduce(0, 0).reduce(1, UNKNOWN).reduce(-1, UNKNOWN);
        Trial scale = Trial.of("9 3", 2).reduce(1, 2).reduce(2, UNKNOWN).reduce(3, UNKNOWN).reduce(-1, UNKNOWN);
        for (int far : FAR) {
            scale.reduce(far, UNKNOWN);
        }
        Trial.of(DIFFERENT, 24).reduce(23, 0).reduce(24, UNKNOWN).reduce(25, UNKNOWN).chain(3, 3, 0, 1).reduce(2, 0).reduce(3, UNKNOWN);
    }

    // ---- Promise 10: order

    @Sentence("THE ORDER of the STEPS: REDUCED, the lower first")
    private static void promise10_reducedTheLowerFirst() {
        Trial.of("7/4 3 1/3 5/2 9/8 2", 6).orders(0, 5, 4, 3, 2, 1);
        Trial.of("3/2 5/4 3", 3).orders(0, 2, 1);
        Trial.of("8/3 5/3 7/3 3", 4).orders(0, 2, 3, 1);
        Trial.of("432575/444528 100352/103125 2", 3).orders(0, 2, 1);
        Trial.of("123200/123201 123201/123200 246400/123201 2", 4).orders(0, 2, 1, 3);
    }

    @Sentence("equal ones by their numbers")
    private static void promise10_equalOnesByTheirNumbers() {
        Trial.of("2 3 6 3/2 1 1/2 12 2", 8).orders(0, 1, 5, 6, 2, 3, 4, 7);
        Trial.of("12 3/2 1 6 1/2 3 2 2", 8).orders(0, 3, 5, 7, 1, 2, 4, 6);
        Trial same = Trial.of("3/2 ".repeat(23) + "2", 24);
        Trial none = new Trial().chain(24, 24, 2);
        for (int i = 0; i < 24; i++) {
            same.order(i, i);
            none.order(i, i);
        }
    }

    @Sentence("Which STEP is at i in THE ORDER.")
    private static void promise10_aNoteThatIsThePeriodItself() {
        Trial.of("3/2 2 2", 3).orders(0, 2, 1);
        Trial.of("5 3/2 1/5 5", 4).orders(0, 1, 3, 2);
    }

    @Sentence("A SCALE has STEPS 0 to n - 1 (n from 1 to 24)")
    private static void promise10_oneStepAnd24Steps() {
        new Trial().order(0, 0).order(1, UNKNOWN);
        Trial.of("7", 1).order(0, 0).order(1, UNKNOWN);
        Trial falling = Trial.of("27/14 25/13 21/11 20/11 25/14 7/4 12/7 22/13 18/11 13/8 8/5 11/7 20/13 3/2 13/9 10/7 7/5 11/8 9/7 5/4 6/5 7/6 9/8 2", 24);
        for (int i = 1; i < 24; i++) {
            falling.order(i, 24 - i);
        }
        falling.order(0, 0).order(24, UNKNOWN);
    }

    @Sentence("UNKNOWN (a STEP that there is not)")
    private static void promise10_placesThatThereAreNot() {
        Trial scale = Trial.of("3/2 5/4 2", 3).order(3, UNKNOWN).order(4, UNKNOWN).order(-1, UNKNOWN);
        for (int far : FAR) {
            scale.order(far, UNKNOWN);
        }
        scale.chain(2, 2, 0, 1).orders(0, 1, UNKNOWN, UNKNOWN);
    }

    // ---- Promise 11: gap

    @Sentence("of the one at i in THE ORDER, what the next one .. has more, REDUCED as they are")
    private static void promise11_theNextInTheOrder() {
        Trial.of("5/2 3 1/3 2", 4).gapNote(0, -2, 0, 1).gapNote(1, 4, -1, -1).gapNote(2, -3, 2).gapNote(3, 2, -1);
        Trial.of("7 11/6 13/2 5", 4).gapNote(0, -1, 0, -1, 0, 0, 1).gapNote(1, 1, 0, 0, 1, 0, -1).gapNote(2, -1, -1, 1, -1, 1)
            .gapNote(3, 1, 1, 1, 0, -1);
    }

    @Sentence("(behind the last one: STEP 0, and the PERIOD)")
    private static void promise11_behindTheLastOne() {
        Trial.of("3/2 2", 2).gapNote(1, 2, -1);
        Trial.of("4/3 3/2 3", 3).gapNote(2, 1);
        Trial.of("9/8 13/11 12", 3).gapNote(2, 2, 1, 0, 0, 1, -1);
        Trial.of("2 1 2", 3).gapNote(2, 1);
    }

    @Sentence("At first it has one STEP .. GAPS: .. (behind the last one: STEP 0, and the PERIOD)")
    private static void promise11_oneStep() {
        new Trial().gapNote(0, 1).gap(1, 0, UNKNOWN);
        Trial.of("12", 1).gapNote(0, 2, 1).gap(1, 0, UNKNOWN);
        Trial.of("3/2 13", 2).chain(1, 1, 2, 2).gapNote(0, 0, 0, 0, 0, 0, 1).gap(1, 0, UNKNOWN);
    }

    @Sentence("equal ones by their numbers .. what the next one .. has more")
    private static void promise11_equalReducedSteps() {
        Trial.of("3/2 6 3 2 2", 5).gapNote(0).gapNote(1, -1, 1).gapNote(2).gapNote(3).gapNote(4, 2, -1);
    }

    @Sentence("what the next one (behind the last one: STEP 0, and the PERIOD) has more")
    private static void promise11_allGapsTogetherAreThePeriod() {
        int[] sums = new int[6];
        for (int prime = 0; prime < 6; prime++) {
            TuningTables tables = new TuningTables();
            for (int at = 0; at < DIFFERENT.length(); at++) {
                tables.sign(DIFFERENT.charAt(at));
            }
            tables.read();
            for (int i = 0; i < 24; i++) {
                sums[prime] += tables.gap(i, prime);
            }
        }
        Trial.CHECK.holds("together: " + Arrays.toString(sums), Arrays.equals(sums, new int[] {1, 0, 0, 0, 0, 0}));
    }

    @Sentence("UNKNOWN (a STEP that there is not)")
    private static void promise11_placesThatThereAreNot() {
        Trial scale = Trial.of("3/2 2", 2).gap(2, 0, UNKNOWN).gap(3, 0, UNKNOWN).gap(-1, 0, UNKNOWN);
        for (int far : FAR) {
            scale.gap(far, 0, UNKNOWN);
        }
        Trial.of(DIFFERENT, 24).gap(23, 0, 2).gap(24, 0, UNKNOWN).chain(2, 2, 0, 1).gap(1, 0, 2).gap(2, 0, UNKNOWN);
    }

    @Sentence("OUTSIDE (another number out of its bounds) .. An EXPONENT of the GAP")
    private static void promise11_primesThatThereAreNot() {
        Trial scale = Trial.of("13/8 2", 2).gap(0, 5, 1).gap(0, -1, OUTSIDE).gap(0, 6, OUTSIDE).gap(1, 6, OUTSIDE).gap(1, -1, OUTSIDE);
        for (int far : FAR) {
            scale.gap(1, far, OUTSIDE);
        }
    }

    @Sentence("the first of these that fits: UNKNOWN .., OUTSIDE")
    private static void promise11_unknownAheadOfOutside() {
        Trial.of("3/2 2", 2).gap(2, 6, UNKNOWN).gap(2, -1, UNKNOWN).gap(-1, 6, UNKNOWN).gap(-1, -1, UNKNOWN);
    }

    // ---- Promise 12: gaps

    @Sentence("How many different GAPS there are.")
    private static void promise12_from1To24() {
        new Trial().gaps(1);
        Trial.of("13", 1).gaps(1);
        Trial.of("2 4", 2).gaps(1);
        Trial.of("2 4 8", 3).gaps(1);
        Trial.of("3/2 2", 2).gaps(2);
        Trial.of("9/8 5/4 4/3 3/2 5/3 15/8 2", 7).gaps(3);
        Trial.of(DIFFERENT, 24).gaps(24);
    }

    @Sentence("How many different GAPS there are.")
    private static void promise12_eachPrimeTellsThemApart() {
        Trial.of("1 2 3", 3).gaps(3);
        Trial.of("1 3 12", 3).gaps(3);
        Trial.of("1 5 10", 3).gaps(3);
        Trial.of("1 7 12", 3).gaps(3);
        Trial.of("1 11 12", 3).gaps(3);
        Trial.of("1 13", 2).gaps(2);
        Trial.of("1/3 2", 2).gaps(2);
    }

    @Sentence("How many different GAPS there are.")
    private static void promise12_equalStepsHaveTheGapUnison() {
        Trial.of("1 2", 2).gaps(2);
        Trial.of("2 2", 2).gaps(2);
        Trial.of("1 1 1 2", 4).gaps(2);
        Trial.of("3/2 3/2 3 2", 4).gaps(3);
        new Trial().chain(24, 24, -1).gaps(2);
    }

    @Sentence("How many different GAPS there are.")
    private static void promise12_equalOnesApartCountOnce() {
        Trial.of("9/8 4/3 3/2 2", 4).gaps(3);
        Trial.of("9/8 9/7 81/56 2", 4).gaps(3);
        Trial chains = new Trial();
        int[] different = {1, 2, 2, 3, 2, 3, 2, 3, 3, 3, 3, 2, 3};
        for (int n = 1; n <= 13; n++) {
            chains.chain(n, n, 0, 1).gaps(different[n - 1]);
        }
    }

    // ---- Promise 13: chain

    /** A CHAIN with this PERIOD has the STEPS that the reference's has, and the PERIOD stays. */
    private static void dueChain(int period, int n, int... link) {
        Reference reference = new Reference();
        String text = "" + period;
        for (int at = 0; at < text.length(); at++) {
            reference.sign(text.charAt(at));
        }
        reference.read();
        reference.chain(n, link);
        Trial chain = Trial.of(text, 1).chain(n, n, link).steps(n);
        for (int step = 0; step <= n; step++) {
            for (int prime = 0; prime < 6; prime++) {
                chain.exponent(step, prime, reference.exponent(step, prime));
            }
            chain.order(step, step < n ? step : UNKNOWN);
        }
    }

    @Sentence("of n STEPS: none, one, two, .. n - 1 of that NOTE together, each REDUCED, the lower first")
    private static void promise13_fifths() {
        new Trial().chain(7, 7, -1, 1).note(0).note(1, -3, 2).note(2, -6, 4).note(3, -9, 6).note(4, -1, 1).note(5, -4, 3).note(6, -7, 5).note(7, 1);
        new Trial().chain(3, 3, 0, -1).note(0).note(1, 2, -1).note(2, 4, -2).note(3, 1);
    }

    @Sentence("(n from 1 to 24) .. The SCALE becomes a CHAIN of n STEPS")
    private static void promise13_1And24Steps() {
        new Trial().chain(1, 1, 0, 1).steps(1).note(0).note(1, 1).exponent(2, 0, UNKNOWN);
        new Trial().chain(1, 1, 2, 2, 2, 2, 2, 2).note(0).note(1, 1);
        new Trial().chain(24, 24, 0, 1).steps(24).note(0).note(24, 1).exponent(25, 0, UNKNOWN);
        for (int n = 1; n <= 24; n++) {
            dueChain(2, n, -1, 1, 0, 0, 0, 0);
        }
    }

    @Sentence("OUTSIDE: also n.")
    private static void promise13_otherNumbersOfSteps() {
        Trial scale = Trial.of("5/4 3", 2);
        for (int n : new int[] {0, -1, -24, 25, 26, Integer.MIN_VALUE, Integer.MAX_VALUE}) {
            scale.chain(OUTSIDE, n, 0, 1).chain(OUTSIDE, n).steps(2).note(1, -2, 0, 1).note(2, 0, 1);
        }
    }

    @Sentence("the NOTE with these EXPONENTS (-2 to 2)")
    private static void promise13_eachExponentAtItsBounds() {
        for (int prime = 0; prime < 6; prime++) {
            for (int exponent = -2; exponent <= 2; exponent++) {
                int[] link = new int[6];
                link[prime] = exponent;
                dueChain(2, 24, link);
                dueChain(3, 13, link);
                dueChain(13, 5, link);
            }
        }
    }

    @Sentence("the NOTE with these EXPONENTS (-2 to 2)")
    private static void promise13_allExponentsAtTheirBounds() {
        for (int signs = 0; signs < 64; signs++) {
            int[] link = new int[6];
            for (int prime = 0; prime < 6; prime++) {
                link[prime] = (signs >> prime & 1) == 0 ? -2 : 2;
            }
            dueChain(2 + signs % 12, 24, link);
            dueChain(2, 24, link);
        }
    }

    @Sentence("these EXPONENTS (-2 to 2) .. OUTSIDE")
    private static void promise13_exponentsBeyondTheirBounds() {
        Trial scale = Trial.of("5/4 3", 2);
        for (int prime = 0; prime < 6; prime++) {
            for (int beyond : new int[] {-3, 3, -4, 4, 256, Integer.MIN_VALUE, Integer.MAX_VALUE}) {
                int[] link = {0, 0, 0, 0, 0, 0};
                link[prime] = beyond;
                scale.chain(OUTSIDE, 3, link);
            }
        }
        scale.steps(2).note(1, -2, 0, 1).note(2, 0, 1).chain(OUTSIDE, 25, 3).chain(OUTSIDE, 0, 3, 3, 3, 3, 3, 3).steps(2);
    }

    @Sentence("with the PERIOD that there is")
    private static void promise13_thePeriodThatThereIs() {
        for (int period = 2; period <= 13; period++) {
            dueChain(period, 24, 1, 0, 0, 0, 0, 0);
            dueChain(period, 7, 0, -1, 1, 0, 0, 0);
        }
        Trial.of("5/3 3", 2).chain(4, 4, 0, 0, -1, 1).note(1, 0, 0, -1, 1).note(2, 0, 0, -2, 2).note(3, 0, 0, -3, 3).note(4, 0, 1)
            .chain(2, 2, 0, 2, 1).note(1, 0, -1, 1).note(2, 0, 1);
    }

    @Sentence("each REDUCED")
    private static void promise13_aLinkThatIsUnisonOrThePeriod() {
        for (int power = -2; power <= 2; power++) {
            Trial.of("3", 1).chain(24, 24, 0, power).note(0).note(1).note(23).note(24, 0, 1).gaps(2);
        }
        Trial.of("4", 1).chain(4, 4, 1).note(0).note(1).note(2, 1).note(3, 1).note(4, 2);
        Trial.of("9", 1).chain(3, 3, 0, -1).note(0).note(1).note(2, 0, 1).note(3, 0, 2);
        Trial.of("8", 1).chain(5, 5, -1).note(0).note(1).note(2, 1).note(3, 2).note(4, 2).note(5, 3);
    }

    @Sentence("each REDUCED, the lower first")
    private static void promise13_aChainIsInOrder() {
        Trial chain = new Trial().chain(24, 24, 2, 2, 2, 2, 2, 2);
        for (int step = 0; step < 24; step++) {
            chain.reduce(step, 0).order(step, step).compare(step, step + 1, -1);
        }
    }

    @Sentence("OUTSIDE .. then nothing changes")
    private static void promise13_aRefusedChainChangesNothing() {
        Trial scale = new Trial().spell("3/2 ?").read(-11).chain(5, 5, 0, 1).spell("5/4 ");
        List<Integer> before = scale.seen();
        scale.chain(OUTSIDE, 0, 0, 0, 1).stillSeen(before).chain(OUTSIDE, 25, 0, 0, 1).stillSeen(before)
            .chain(OUTSIDE, 3, 0, 0, 1, 0, 0, 3).stillSeen(before).chain(OUTSIDE, 3, -3, 0, 1).stillSeen(before);
        scale.place(4).sign('3', 5).read(2).note(1, -2, 0, 1).note(2, 0, 1);
    }

    @Sentence("The SCALE becomes a CHAIN")
    private static void promise13_theTextStays() {
        new Trial().spell("7/4 ").chain(24, 24, 0, 0, 1).place(NONE).sign('2', 5).read(2).note(0).note(1, -2, 0, 0, 1).note(2, 1);
    }

    @Sentence("The SCALE becomes a CHAIN")
    private static void promise13_nothingIsLeftOfTheScaleBefore() {
        Trial.of("7/4 9 1/9 6/5 2", 5).chain(3, 3, 0, 0, 1).note(1, -2, 0, 1).note(2, -4, 0, 2).note(3, 1).exponent(4, 0, UNKNOWN)
            .reduce(1, 0).reduce(2, 0).orders(0, 1, 2, UNKNOWN).gaps(2).chain(2, 2, 0, 0, 0, 1).note(1, -2, 0, 0, 1).note(2, 1)
            .chain(4, 4, 0, 1).note(1, -3, 2).note(2, -1, 1).note(3, -4, 3).note(4, 1).degree(2, 12, 7);
    }
}
