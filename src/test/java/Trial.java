import java.util.ArrayList;
import java.util.Arrays;
import java.util.List;

/**
 * An object of TuningTables, each of whose calls is made together with the answer that is due. It is
 * used for at most 512 calls: what later ones answer is free, so that a test of them would mean nothing.
 */
final class Trial {
    static final int NONE = -1000001, UNKNOWN = -1000002, OUTSIDE = -1000003, STATE = -1000004, ROOM = -1000005, WIDE = -1000006;
    static final Check CHECK = new Check();
    private static final int MOST_CALLS = 512;

    private final TuningTables tables = new TuningTables();
    private int calls = 0;

    /** A new object that has read a TEXT without FAULT. */
    static Trial of(String text, int steps) {
        return new Trial().spell(text).read(steps);
    }

    /** A TEXT that has a FAULT, read by a new object. */
    static void fault(String text, int fault, int place) {
        new Trial().spell(text).read(-10 - fault).place(place);
    }

    private int counted(int answer) {
        calls++;
        CHECK.holds("an object has 512 calls at most", calls <= MOST_CALLS);
        return answer;
    }

    private Trial due(String call, int got, int want) {
        CHECK.due(call, counted(got), want);
        return this;
    }

    Trial spell(String text) {
        for (int at = 0; at < text.length(); at++) {
            due("sign in '" + text + "' at " + at, tables.sign(text.charAt(at)), at + 1);
        }
        return this;
    }

    Trial sign(int c, int want) {
        return due("sign(" + c + ")", tables.sign(c), want);
    }

    Trial read(int want) {
        return due("read()", tables.read(), want);
    }

    Trial place(int want) {
        return due("place()", tables.place(), want);
    }

    Trial steps(int want) {
        return due("steps()", tables.steps(), want);
    }

    Trial exponent(int step, int prime, int want) {
        return due("exponent(" + step + ", " + prime + ")", tables.exponent(step, prime), want);
    }

    /** All EXPONENTS of a STEP; those that are not told are 0. */
    Trial note(int step, int... exponents) {
        int[] whole = Arrays.copyOf(exponents, 6);
        for (int prime = 0; prime < 6; prime++) {
            exponent(step, prime, whole[prime]);
        }
        return this;
    }

    Trial key(int k, int prime, int want) {
        return due("key(" + k + ", " + prime + ")", tables.key(k, prime), want);
    }

    Trial compare(int a, int b, int want) {
        return due("compare(" + a + ", " + b + ")", tables.compare(a, b), want);
    }

    Trial reduce(int step, int want) {
        return due("reduce(" + step + ")", tables.reduce(step), want);
    }

    Trial order(int i, int want) {
        return due("order(" + i + ")", tables.order(i), want);
    }

    Trial orders(int... steps) {
        for (int i = 0; i < steps.length; i++) {
            order(i, steps[i]);
        }
        return this;
    }

    Trial gap(int i, int prime, int want) {
        return due("gap(" + i + ", " + prime + ")", tables.gap(i, prime), want);
    }

    /** All EXPONENTS of a GAP; those that are not told are 0. */
    Trial gapNote(int i, int... exponents) {
        int[] whole = Arrays.copyOf(exponents, 6);
        for (int prime = 0; prime < 6; prime++) {
            gap(i, prime, whole[prime]);
        }
        return this;
    }

    Trial gaps(int want) {
        return due("gaps()", tables.gaps(), want);
    }

    Trial chain(int want, int n, int... e) {
        int[] link = Arrays.copyOf(e, 6);
        return due("chain(" + n + ", " + Arrays.toString(link) + ")",
            tables.chain(n, link[0], link[1], link[2], link[3], link[4], link[5]), want);
    }

    Trial degree(int step, int m, int want) {
        return due("degree(" + step + ", " + m + ")", tables.degree(step, m), want);
    }

    Trial prime(int prime, int m, int want) {
        return due("prime(" + prime + ", " + m + ")", tables.prime(prime, m), want);
    }

    Trial makes(int step, int m, int want) {
        return due("makes(" + step + ", " + m + ")", tables.makes(step, m), want);
    }

    Trial tempers(int step, int want) {
        return due("tempers(" + step + ")", tables.tempers(step), want);
    }

    Trial term(int step, int i, int want) {
        return due("term(" + step + ", " + i + ")", tables.term(step, i), want);
    }

    /** The TERMS of a STEP from 0 on. */
    Trial terms(int step, int... wants) {
        for (int i = 0; i < wants.length; i++) {
            term(step, i, wants[i]);
        }
        return this;
    }

    /** What calls that change nothing tell: of the FAULT, the SCALE, and of some STEPS all the rest. */
    List<Integer> seen() {
        List<Integer> seen = new ArrayList<>();
        int n = counted(tables.steps());
        seen.add(n);
        seen.add(counted(tables.place()));
        seen.add(counted(tables.gaps()));
        for (int step = 0; step <= n; step++) {
            seen.add(counted(tables.exponent(step, 0)));
            seen.add(counted(tables.exponent(step, 1)));
            seen.add(counted(tables.exponent(step, 2)));
            seen.add(counted(tables.reduce(step)));
            seen.add(counted(tables.order(step)));
        }
        for (int m = 12; m <= 13; m++) {
            seen.add(counted(tables.prime(0, m)));
            seen.add(counted(tables.prime(1, m)));
            seen.add(counted(tables.makes(n - 1, m)));
            seen.add(counted(tables.degree(n - 1, m)));
        }
        seen.add(counted(tables.gap(n - 1, 0)));
        seen.add(counted(tables.key(-1, 0)));
        seen.add(counted(tables.compare(n - 1, n)));
        seen.add(counted(tables.tempers(n - 1)));
        seen.add(counted(tables.term(n - 1, 1)));
        return seen;
    }

    Trial stillSeen(List<Integer> before) {
        CHECK.holds("nothing has changed: " + before, seen().equals(before));
        return this;
    }
}
