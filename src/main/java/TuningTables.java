import java.util.Arrays;

/**
 * Scales of notes that are products of powers of the first six primes.
 * What every call must answer stands in the project's document, promise by promise.
 */
public final class TuningTables {
    public static final int NONE = -1000001, UNKNOWN = -1000002, OUTSIDE = -1000003, STATE = -1000004, ROOM = -1000005, WIDE = -1000006;

    private static final int PRIMES = 6;
    private static final int MOST_STEPS = 24;
    private static final int MOST_PARTS = 36;
    private static final int MOST_TERMS = 10;
    private static final int FARTHEST_KEY = 200;
    private static final int MOST_OF_A_LINK = 2;
    private static final int[] PRIME_VALUES = {2, 3, 5, 7, 11, 13};

    private final Text text;
    private final Scale scale;
    private final Parts parts;
    private final Division division;

    public TuningTables() {
        text = new Text();
        scale = new Scale();
        parts = new Parts(scale.period);
        division = new Division();
    }

    public int sign(int c) {
        if (!Text.allows(c)) {
            return OUTSIDE;
        }
        return text.isFull() ? ROOM : text.append(c);
    }

    public int read() {
        text.scan();
        if (text.fault != 0) {
            return -10 - text.fault;
        }
        scale.take(text);
        parts.forget();
        return scale.count;
    }

    public int place() {
        return text.place;
    }

    public int steps() {
        return scale.count;
    }

    public int exponent(int step, int prime) {
        if (!isStepOrPeriod(step)) {
            return UNKNOWN;
        }
        return isPrime(prime) ? scale.noteAt(step).exponents[prime] : OUTSIDE;
    }

    public int key(int k, int prime) {
        if (k < -FARTHEST_KEY || k > FARTHEST_KEY || !isPrime(prime)) {
            return OUTSIDE;
        }
        int periods = Math.floorDiv(k, scale.count);
        int step = k - periods * scale.count;
        return scale.steps[step].exponents[prime] + periods * scale.period.exponents[prime];
    }

    public int compare(int a, int b) {
        if (!isStepOrPeriod(a) || !isStepOrPeriod(b)) {
            return UNKNOWN;
        }
        Note first = scale.noteAt(a);
        Note second = scale.noteAt(b);
        if (first.isBelow(second, 1)) {
            return -1;
        }
        return second.isBelow(first, 1) ? 1 : 0;
    }

    public int reduce(int step) {
        return isStep(step) ? scale.taken[step] : UNKNOWN;
    }

    public int order(int i) {
        return isStep(i) ? scale.sorted[i] : UNKNOWN;
    }

    public int gap(int i, int prime) {
        if (!isStep(i)) {
            return UNKNOWN;
        }
        return isPrime(prime) ? scale.gapExponent(i, prime) : OUTSIDE;
    }

    public int gaps() {
        return scale.differentGaps();
    }

    public int chain(int n, int e2, int e3, int e5, int e7, int e11, int e13) {
        if (n < 1 || n > MOST_STEPS) {
            return OUTSIDE;
        }
        if (!mayLink(e2) || !mayLink(e3) || !mayLink(e5) || !mayLink(e7) || !mayLink(e11) || !mayLink(e13)) {
            return OUTSIDE;
        }
        Note link = scale.link;
        link.clear();
        link.addPrime(0, e2);
        link.addPrime(1, e3);
        link.addPrime(2, e5);
        link.addPrime(3, e7);
        link.addPrime(4, e11);
        link.addPrime(5, e13);
        scale.becomeChain(n);
        return n;
    }

    public int degree(int step, int m) {
        if (!isStep(step)) {
            return UNKNOWN;
        }
        return isPartCount(m) ? parts.nearest(scale.steps[step], m) : OUTSIDE;
    }

    public int prime(int prime, int m) {
        return isPrime(prime) && isPartCount(m) ? parts.nearestToPrime(prime, m) : OUTSIDE;
    }

    public int makes(int step, int m) {
        if (!isStep(step)) {
            return UNKNOWN;
        }
        return isPartCount(m) ? parts.sum(scale.steps[step], m) : OUTSIDE;
    }

    public int tempers(int step) {
        return isStep(step) ? parts.leastThatMakesNothing(scale.steps[step]) : UNKNOWN;
    }

    public int term(int step, int i) {
        if (!isStep(step)) {
            return UNKNOWN;
        }
        if (i < 0 || i >= MOST_TERMS) {
            return OUTSIDE;
        }
        Note note = scale.steps[step];
        return note.isAboveUnison() ? division.termAt(note, scale.period, i) : STATE;
    }

    private boolean isStep(int step) {
        return step >= 0 && step < scale.count;
    }

    private boolean isStepOrPeriod(int step) {
        return step >= 0 && step <= scale.count;
    }

    private static boolean isPrime(int prime) {
        return prime >= 0 && prime < PRIMES;
    }

    private static boolean isPartCount(int m) {
        return m >= 1 && m <= MOST_PARTS;
    }

    private static boolean mayLink(int exponent) {
        return exponent >= -MOST_OF_A_LINK && exponent <= MOST_OF_A_LINK;
    }

    /**
     * A NOTE by its EXPONENTS, and by its size: the sum of its EXPONENTS, each times the whole
     * number in LOGS that its PRIME has there. The size is what tells the higher of two NOTES.
     *
     * Why that is exact: LOGS holds the logarithms to the base 2, times 2 to the 120, rounded down;
     * so a size is off by less than the EXPONENTS' absolute values together, at most 6 * 65536,
     * less than 2 to the 19, for EXPONENTS up to 65536. No NOTE of such EXPONENTS but UNISON has a
     * size nearer to 0 than 2 to the 31 (a reduced basis of the lattice of LOGS shows it; the
     * project's test LogsTest does the whole proof). So the size has the sign of the logarithm.
     * The greatest EXPONENTS here are those that a DEGREE needs: 72 times a STEP of a CHAIN, whose
     * own stay below 740, and some PERIODS: below 60000.
     *
     * A size is high * 2^80 + middle * 2^40 + low, the latter two from 0 to 2^40 - 1.
     */
    private static final class Note {
        static final int LIMB = 40;
        static final long LIMB_MASK = 0xffffffffffL;
        static final int WIDEST = 400;
        static final int MOST_TIMES = 1024;
        static final int ROUNDS = 12;
        static final long[] LOGS = {
            0x10000000000L, 0x0000000000L, 0x0000000000L,
            0x195c01a39fbL, 0xd6879fa00bL, 0x120a068badL,
            0x25269e12f34L, 0x6e2bf924afL, 0xdbfd36bf6dL,
            0x2ceaecfea80L, 0x859b332ac9L, 0x03a413e5a8L,
            0x3759d4f80cbL, 0xa83bf8faf8L, 0x66415554d6L,
            0x3b35004723cL, 0x465e6976daL, 0x1c87298351L,
        };

        final int[] exponents = new int[PRIMES];
        long high;
        long middle;
        long low;

        void clear() {
            Arrays.fill(exponents, 0);
            high = 0;
            middle = 0;
            low = 0;
        }

        void copyFrom(Note other) {
            System.arraycopy(other.exponents, 0, exponents, 0, PRIMES);
            high = other.high;
            middle = other.middle;
            low = other.low;
        }

        void addPrime(int prime, int times) {
            exponents[prime] += times;
            high += times * LOGS[3 * prime];
            middle += times * LOGS[3 * prime + 1];
            low += times * LOGS[3 * prime + 2];
            carry();
        }

        void addTimes(Note other, int times) {
            for (int prime = 0; prime < PRIMES; prime++) {
                exponents[prime] += times * other.exponents[prime];
            }
            high += times * other.high;
            middle += times * other.middle;
            low += times * other.low;
            carry();
        }

        void carry() {
            middle += low >> LIMB;
            low &= LIMB_MASK;
            high += middle >> LIMB;
            middle &= LIMB_MASK;
        }

        boolean isUnison() {
            return (high | middle | low) == 0;
        }

        boolean isAboveUnison() {
            return high >= 0 && !isUnison();
        }

        /** Whether it is lower than another NOTE taken so many times. */
        boolean isBelow(Note other, int times) {
            long lowLeft = low - times * other.low;
            long middleLeft = middle - times * other.middle + (lowLeft >> LIMB);
            return high - times * other.high + (middleLeft >> LIMB) < 0;
        }

        boolean isWide() {
            for (int prime = 0; prime < PRIMES; prime++) {
                if (exponents[prime] > WIDEST || exponents[prime] < -WIDEST) {
                    return true;
                }
            }
            return false;
        }

        /**
         * How many times a NOTE above UNISON may be taken from this one, so that it is not below
         * UNISON; where that is MOST_TIMES or more, MOST_TIMES - 1.
         */
        int timesOf(Note part) {
            int enough = 0;
            int tooMany = 1;
            if (isBelow(part, 0)) {
                tooMany = 0;
                enough = -1;
                while (enough > -MOST_TIMES && isBelow(part, enough)) {
                    tooMany = enough;
                    enough *= 2;
                }
            } else {
                while (tooMany < MOST_TIMES && !isBelow(part, tooMany)) {
                    enough = tooMany;
                    tooMany *= 2;
                }
            }
            return timesBetween(part, enough, tooMany);
        }

        int timesBetween(Note part, int enough, int tooMany) {
            for (int round = 0; round < ROUNDS && tooMany - enough > 1; round++) {
                int times = (enough + tooMany) >> 1;
                if (isBelow(part, times)) {
                    tooMany = times;
                } else {
                    enough = times;
                }
            }
            return enough;
        }
    }

    /** The TEXT, and what its latest reading found: PITCHES, or the first FAULT and its place. */
    private static final class Text {
        static final int MOST_BYTES = 300;
        static final int MOST_DIGITS = 6;
        static final int MOST_FACTORS = 20;
        static final int LEAST_PERIOD = 2;
        static final int GREATEST_PERIOD = 13;

        static final int NO_TOKEN = 1;
        static final int MISPLACED = 2;
        static final int NO_PRODUCT = 3;
        static final int TOO_MANY = 4;
        static final int NO_PERIOD = 5;

        static final int AT_BEGIN = 0;
        static final int BEHIND_NUMBER = 1;
        static final int BEHIND_SLASH = 2;
        static final int BEHIND_FRACTION = 3;

        final byte[] bytes = new byte[MOST_BYTES];
        final int[] pitches = new int[MOST_STEPS * PRIMES];
        int length;
        int count;
        int fault;
        int place = NONE;
        int state;
        int tokenEnd;
        int pitchPlace;

        static boolean allows(int c) {
            return c == '\n' || c >= ' ' && c <= '~';
        }

        static boolean isDigit(int c) {
            return c >= '0' && c <= '9';
        }

        boolean isFull() {
            return length >= MOST_BYTES;
        }

        int append(int c) {
            if (length < MOST_BYTES) {
                bytes[length] = (byte) c;
                length++;
            }
            return length;
        }

        /** Reads the whole TEXT, which is empty then. */
        void scan() {
            count = 0;
            fault = 0;
            place = NONE;
            state = AT_BEGIN;
            tokenEnd = 0;
            for (int at = 0; at < length && fault == 0; at++) {
                if (at >= tokenEnd) {
                    takeAt(at);
                }
            }
            if (fault == 0) {
                takeEnd();
            }
            length = 0;
        }

        void refuse(int number, int at) {
            fault = number;
            place = at;
        }

        void takeAt(int at) {
            int c = bytes[at];
            if (isDigit(c)) {
                takeNumber(at);
            } else if (c == '/') {
                takeSlash(at);
            } else if (c == '#') {
                tokenEnd = lineEnd(at);
            } else if (c != '\n' && c != ' ') {
                refuse(NO_TOKEN, at);
            }
        }

        int lineEnd(int at) {
            int end = at;
            while (end < length && bytes[end] != '\n') {
                end++;
            }
            return end;
        }

        void takeSlash(int at) {
            if (state == BEHIND_NUMBER) {
                state = BEHIND_SLASH;
            } else {
                refuse(MISPLACED, at);
            }
        }

        void takeNumber(int at) {
            int end = at;
            int value = 0;
            while (end < length && isDigit(bytes[end])) {
                if (end - at < MOST_DIGITS) {
                    value = 10 * value + bytes[end] - '0';
                }
                end++;
            }
            tokenEnd = end;
            if (end - at > MOST_DIGITS) {
                refuse(NO_TOKEN, at);
            } else if (state == BEHIND_SLASH) {
                state = BEHIND_FRACTION;
                multiply(value, -1, at);
            } else if (count >= MOST_STEPS) {
                refuse(TOO_MANY, at);
            } else {
                beginPitch(at);
                multiply(value, 1, at);
            }
        }

        void beginPitch(int at) {
            for (int prime = 0; prime < PRIMES; prime++) {
                pitches[count * PRIMES + prime] = 0;
            }
            count++;
            pitchPlace = at;
            state = BEHIND_NUMBER;
        }

        /** Multiplies the latest PITCH by a NUMBER (power 1), or divides it (power -1). */
        void multiply(int value, int power, int at) {
            int rest = value;
            int row = (count - 1) * PRIMES;
            for (int prime = 0; prime < PRIMES && rest > 0; prime++) {
                int divisor = PRIME_VALUES[prime];
                for (int factor = 0; factor < MOST_FACTORS && rest % divisor == 0; factor++) {
                    rest /= divisor;
                    pitches[row + prime] += power;
                }
            }
            if (rest != 1) {
                refuse(NO_PRODUCT, at);
            }
        }

        void takeEnd() {
            if (state != BEHIND_NUMBER && state != BEHIND_FRACTION) {
                refuse(MISPLACED, length);
            } else if (!endsWithPeriod()) {
                refuse(NO_PERIOD, pitchPlace);
            }
        }

        boolean endsWithPeriod() {
            int row = (count - 1) * PRIMES;
            int value = 1;
            for (int prime = 0; prime < PRIMES; prime++) {
                int exponent = pitches[row + prime];
                if (exponent < 0) {
                    return false;
                }
                for (int factor = 0; factor < exponent; factor++) {
                    value *= PRIME_VALUES[prime];
                }
            }
            return value >= LEAST_PERIOD && value <= GREATEST_PERIOD;
        }
    }

    /** The SCALE, and its STEPS as they are in the PERIOD, which every change works out anew. */
    private static final class Scale {
        final Note[] steps = new Note[MOST_STEPS];
        final Note[] reduced = new Note[MOST_STEPS];
        final int[] taken = new int[MOST_STEPS];
        final int[] sorted = new int[MOST_STEPS];
        final Note period = new Note();
        final Note link = new Note();
        final Note sum = new Note();
        int count = 1;

        Scale() {
            for (int step = 0; step < MOST_STEPS; step++) {
                steps[step] = new Note();
                reduced[step] = new Note();
            }
            period.addPrime(0, 1);
        }

        Note noteAt(int step) {
            return step == count ? period : steps[step];
        }

        /** Becomes what a TEXT without FAULT says; STEP 0 is UNISON ever since it was made. */
        void take(Text text) {
            count = text.count;
            for (int step = 1; step < count; step++) {
                setNote(steps[step], text.pitches, (step - 1) * PRIMES);
            }
            setNote(period, text.pitches, (count - 1) * PRIMES);
            arrange();
        }

        static void setNote(Note note, int[] pitches, int row) {
            note.clear();
            for (int prime = 0; prime < PRIMES; prime++) {
                note.addPrime(prime, pitches[row + prime]);
            }
        }

        /** Becomes a CHAIN of the NOTE in link. */
        void becomeChain(int length) {
            link.addTimes(period, -link.timesOf(period));
            count = length;
            sum.clear();
            for (int step = 0; step < count; step++) {
                steps[step].copyFrom(sum);
                sinkStep(step);
                // both are REDUCED, so that their sum has at most one PERIOD too many
                sum.addTimes(link, 1);
                if (!sum.isBelow(period, 1)) {
                    sum.addTimes(period, -1);
                }
            }
            arrange();
        }

        void sinkStep(int last) {
            for (int step = last; step > 0 && steps[step].isBelow(steps[step - 1], 1); step--) {
                Note higher = steps[step - 1];
                steps[step - 1] = steps[step];
                steps[step] = higher;
            }
        }

        void arrange() {
            for (int step = 0; step < count; step++) {
                taken[step] = steps[step].timesOf(period);
                reduced[step].copyFrom(steps[step]);
                reduced[step].addTimes(period, -taken[step]);
                sorted[step] = step;
                sinkSorted(step);
            }
        }

        void sinkSorted(int last) {
            for (int i = last; i > 0 && reduced[sorted[i]].isBelow(reduced[sorted[i - 1]], 1); i--) {
                int higher = sorted[i - 1];
                sorted[i - 1] = sorted[i];
                sorted[i] = higher;
            }
        }

        int gapExponent(int i, int prime) {
            // behind the last one comes STEP 0 a PERIOD higher, which is the PERIOD itself
            Note next = i + 1 < count ? reduced[sorted[i + 1]] : period;
            return next.exponents[prime] - reduced[sorted[i]].exponents[prime];
        }

        int differentGaps() {
            int different = 0;
            for (int i = 0; i < count; i++) {
                if (!isGapBefore(i)) {
                    different++;
                }
            }
            return different;
        }

        boolean isGapBefore(int i) {
            for (int earlier = 0; earlier < i; earlier++) {
                if (areSameGaps(earlier, i)) {
                    return true;
                }
            }
            return false;
        }

        boolean areSameGaps(int i, int j) {
            for (int prime = 0; prime < PRIMES; prime++) {
                if (gapExponent(i, prime) != gapExponent(j, prime)) {
                    return false;
                }
            }
            return true;
        }
    }

    /** Equal parts of a PERIOD; the DEGREES of PRIMES are kept until the PERIOD changes. */
    private static final class Parts {
        final Note period;
        final Note divided = new Note();
        final Note divisor = new Note();
        final Note single = new Note();
        final int[] kept = new int[(MOST_PARTS + 1) * PRIMES];

        Parts(Note period) {
            this.period = period;
            Arrays.fill(kept, NONE);
        }

        void forget() {
            Arrays.fill(kept, NONE);
        }

        /**
         * The DEGREE of a NOTE. With x parts in the NOTE it is x - 1/2 rounded up, as of two as
         * near the lesser counts: that is (1 - 2 x) / 2 rounded down, with the other sign.
         */
        int nearest(Note note, int m) {
            divided.copyFrom(period);
            divided.addTimes(note, -2 * m);
            divisor.copyFrom(period);
            divisor.addTimes(period, 1);
            return -divided.timesOf(divisor);
        }

        int nearestToPrime(int prime, int m) {
            int at = m * PRIMES + prime;
            if (kept[at] == NONE) {
                single.clear();
                single.addPrime(prime, 1);
                kept[at] = nearest(single, m);
            }
            return kept[at];
        }

        int sum(Note note, int m) {
            int sum = 0;
            for (int prime = 0; prime < PRIMES; prime++) {
                int exponent = note.exponents[prime];
                if (exponent != 0) {
                    sum += exponent * nearestToPrime(prime, m);
                }
            }
            return sum;
        }

        int leastThatMakesNothing(Note note) {
            for (int m = 1; m <= MOST_PARTS; m++) {
                if (sum(note, m) == 0) {
                    return m;
                }
            }
            return NONE;
        }
    }

    /** The continued fraction that a NOTE is of its PERIOD. */
    private static final class Division {
        final Note first = new Note();
        final Note second = new Note();

        int termAt(Note note, Note period, int i) {
            Note x = first;
            Note y = second;
            x.copyFrom(note);
            y.copyFrom(period);
            for (int index = 0; index < i; index++) {
                if (takeTerm(x, y) == WIDE) {
                    return WIDE;
                }
                if (x.isUnison()) {
                    return NONE;
                }
                Note left = x;
                x = y;
                y = left;
            }
            return takeTerm(x, y);
        }

        /**
         * The TERM, x being what is left then; or WIDE. A count that timesOf cuts off is above 800:
         * so many times y, which is not UNISON, lead from any x that is not wide to one that is.
         * A count that is not WIDE, and one more, leave EXPONENTS up to 800, where sizes are exact;
         * as they fall with every y that is taken, it does not matter what timesOf tries beyond.
         */
        static int takeTerm(Note x, Note y) {
            if (x.isWide() || y.isWide()) {
                return WIDE;
            }
            int times = x.timesOf(y);
            x.addTimes(y, -times);
            return x.isWide() ? WIDE : times;
        }
    }
}
