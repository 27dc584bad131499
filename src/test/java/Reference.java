import java.math.BigInteger;
import java.util.ArrayList;
import java.util.List;
import java.util.regex.Matcher;
import java.util.regex.Pattern;

/** The document once more, as plainly as can be, with products of any size instead of logarithms. */
final class Reference {
    static final int NONE = -1000001, UNKNOWN = -1000002, OUTSIDE = -1000003, STATE = -1000004, ROOM = -1000005, WIDE = -1000006;
    private static final int[] PRIMES = {2, 3, 5, 7, 11, 13};
    private static final Pattern PIECE = Pattern.compile("[0-9]+|#[^\n]*|[^0-9#]", Pattern.DOTALL);

    private final StringBuilder text = new StringBuilder();
    private List<int[]> steps = new ArrayList<>(List.of(new int[6]));
    private int[] period = {1, 0, 0, 0, 0, 0};
    private int place = NONE;

    int sign(int c) {
        if (c != 10 && (c < 32 || c > 126)) {
            return OUTSIDE;
        }
        if (text.length() == 300) {
            return ROOM;
        }
        text.append((char) c);
        return text.length();
    }

    int read() {
        String whole = text.toString();
        text.setLength(0);
        place = NONE;
        List<int[]> pitches = new ArrayList<>();
        String form = "";
        int pitchAt = 0;
        Matcher piece = PIECE.matcher(whole);
        while (piece.find()) {
            String token = piece.group();
            int at = piece.start();
            if (token.isBlank() || token.startsWith("#")) {
                continue;
            }
            boolean number = Character.isDigit(token.charAt(0));
            if (!number && !token.equals("/") || token.length() > 6) {
                return fault(1, at);
            }
            if (!number && !form.equals("n")) {
                return fault(2, at);
            }
            if (!number) {
                form = "n/";
                continue;
            }
            boolean below = form.equals("n/");
            if (!below && pitches.size() == 24) {
                return fault(4, at);
            }
            int[] factors = factors(Integer.parseInt(token));
            if (factors == null) {
                return fault(3, at);
            }
            if (below) {
                int[] latest = pitches.get(pitches.size() - 1);
                pitches.set(pitches.size() - 1, plus(latest, factors, -1));
                form = "n/n";
            } else {
                pitches.add(factors);
                pitchAt = at;
                form = "n";
            }
        }
        if (form.isEmpty() || form.equals("n/")) {
            return fault(2, whole.length());
        }
        int[] last = pitches.remove(pitches.size() - 1);
        BigInteger value = product(last, 1);
        if (!product(last, -1).equals(BigInteger.ONE) || value.intValueExact() < 2 || value.intValueExact() > 13) {
            return fault(5, pitchAt);
        }
        period = last;
        steps = pitches;
        steps.add(0, new int[6]);
        return steps.size();
    }

    private int fault(int number, int at) {
        place = at;
        return -10 - number;
    }

    int place() {
        return place;
    }

    int steps() {
        return steps.size();
    }

    int exponent(int step, int prime) {
        if (step < 0 || step > steps.size()) {
            return UNKNOWN;
        }
        return isOutside(prime, 0, 5) ? OUTSIDE : noteOrPeriod(step)[prime];
    }

    int key(int k, int prime) {
        if (isOutside(k, -200, 200) || isOutside(prime, 0, 5)) {
            return OUTSIDE;
        }
        int periods = 0;
        int step = k;
        for (; step < 0; step += steps.size()) {
            periods--;
        }
        for (; step >= steps.size(); step -= steps.size()) {
            periods++;
        }
        return plus(steps.get(step), period, periods)[prime];
    }

    int compare(int a, int b) {
        if (isOutside(a, 0, steps.size()) || isOutside(b, 0, steps.size())) {
            return UNKNOWN;
        }
        return side(plus(noteOrPeriod(a), noteOrPeriod(b), -1));
    }

    int reduce(int step) {
        return isNoStep(step) ? UNKNOWN : quotient(steps.get(step), period);
    }

    int order(int i) {
        return isNoStep(i) ? UNKNOWN : sorted().get(i);
    }

    int gap(int i, int prime) {
        if (isNoStep(i)) {
            return UNKNOWN;
        }
        return isOutside(prime, 0, 5) ? OUTSIDE : gapNotes().get(i)[prime];
    }

    int gaps() {
        return (int) gapNotes().stream().map(java.util.Arrays::toString).distinct().count();
    }

    int chain(int n, int... exponents) {
        boolean outside = isOutside(n, 1, 24);
        for (int exponent : exponents) {
            outside |= isOutside(exponent, -2, 2);
        }
        if (outside) {
            return OUTSIDE;
        }
        steps = new ArrayList<>();
        for (int times = 0; times < n; times++) {
            steps.add(reduced(plus(new int[6], exponents, times)));
        }
        steps.sort((a, b) -> side(plus(a, b, -1)));
        return n;
    }

    int degree(int step, int m) {
        if (isNoStep(step)) {
            return UNKNOWN;
        }
        return isOutside(m, 1, 36) ? OUTSIDE : nearest(steps.get(step), m);
    }

    int prime(int prime, int m) {
        if (isOutside(prime, 0, 5) || isOutside(m, 1, 36)) {
            return OUTSIDE;
        }
        int[] note = new int[6];
        note[prime] = 1;
        return nearest(note, m);
    }

    int makes(int step, int m) {
        if (isNoStep(step)) {
            return UNKNOWN;
        }
        if (isOutside(m, 1, 36)) {
            return OUTSIDE;
        }
        int sum = 0;
        for (int prime = 0; prime < 6; prime++) {
            sum += steps.get(step)[prime] * prime(prime, m);
        }
        return sum;
    }

    int tempers(int step) {
        if (isNoStep(step)) {
            return UNKNOWN;
        }
        for (int m = 1; m <= 36; m++) {
            if (makes(step, m) == 0) {
                return m;
            }
        }
        return NONE;
    }

    int term(int step, int i) {
        if (isNoStep(step)) {
            return UNKNOWN;
        }
        if (isOutside(i, 0, 9)) {
            return OUTSIDE;
        }
        int[] x = steps.get(step);
        int[] y = period;
        if (side(x) <= 0) {
            return STATE;
        }
        for (int index = 0; ; index++) {
            int times = 0;
            int[] left = x;
            for (int[] next = plus(left, y, -1); times < 1000 && side(next) >= 0; next = plus(left, y, -1)) {
                left = next;
                times++;
            }
            if (isWide(x) || isWide(y) || isWide(left)) {
                return WIDE;
            }
            if (index == i) {
                return times;
            }
            if (side(left) == 0) {
                return NONE;
            }
            x = y;
            y = left;
        }
    }

    private int[] noteOrPeriod(int step) {
        return step == steps.size() ? period : steps.get(step);
    }

    private boolean isNoStep(int step) {
        return isOutside(step, 0, steps.size() - 1);
    }

    private static boolean isOutside(int number, int least, int greatest) {
        return number < least || number > greatest;
    }

    private static boolean isWide(int[] note) {
        for (int exponent : note) {
            if (isOutside(exponent, -400, 400)) {
                return true;
            }
        }
        return false;
    }

    private static int[] factors(int value) {
        int[] factors = new int[6];
        int rest = value;
        for (int prime = 0; prime < 6 && value > 0; prime++) {
            for (; rest % PRIMES[prime] == 0; rest /= PRIMES[prime]) {
                factors[prime]++;
            }
        }
        return rest == 1 ? factors : null;
    }

    private static int[] plus(int[] note, int[] other, int times) {
        int[] sum = note.clone();
        for (int prime = 0; prime < 6; prime++) {
            sum[prime] += times * other[prime];
        }
        return sum;
    }

    private static BigInteger product(int[] note, int power) {
        BigInteger product = BigInteger.ONE;
        for (int prime = 0; prime < 6; prime++) {
            if (power * note[prime] > 0) {
                product = product.multiply(BigInteger.valueOf(PRIMES[prime]).pow(power * note[prime]));
            }
        }
        return product;
    }

    static int side(int[] note) {
        return product(note, 1).compareTo(product(note, -1));
    }

    private static double guess(int[] note) {
        double log = 0;
        for (int prime = 0; prime < 6; prime++) {
            log += note[prime] * Math.log(PRIMES[prime]);
        }
        return log;
    }

    /** The guess only saves time: the loops behind it find the quotient from anywhere. */
    private static int quotient(int[] note, int[] part) {
        int times = (int) Math.round(guess(note) / guess(part));
        while (side(plus(note, part, -times)) < 0) {
            times--;
        }
        while (side(plus(note, part, -times - 1)) >= 0) {
            times++;
        }
        return times;
    }

    /** Likewise, from the least number that is not too low. */
    private int nearest(int[] note, int m) {
        int[] twice = plus(new int[6], note, 2 * m);
        int degree = (int) Math.round(m * guess(note) / guess(period));
        while (side(plus(twice, period, -2 * degree - 1)) > 0) {
            degree++;
        }
        while (side(plus(twice, period, -2 * degree + 1)) <= 0) {
            degree--;
        }
        return degree;
    }

    private int[] reduced(int[] note) {
        return plus(note, period, -quotient(note, period));
    }

    private List<Integer> sorted() {
        List<Integer> numbers = new ArrayList<>();
        List<int[]> notes = new ArrayList<>();
        for (int step = 0; step < steps.size(); step++) {
            numbers.add(step);
            notes.add(reduced(steps.get(step)));
        }
        numbers.sort((a, b) -> side(plus(notes.get(a), notes.get(b), -1)));
        return numbers;
    }

    private List<int[]> gapNotes() {
        List<int[]> heights = new ArrayList<>();
        for (int step : sorted()) {
            heights.add(reduced(steps.get(step)));
        }
        heights.add(period);
        List<int[]> gaps = new ArrayList<>();
        for (int i = 0; i + 1 < heights.size(); i++) {
            gaps.add(plus(heights.get(i + 1), heights.get(i), -1));
        }
        return gaps;
    }
}
