import java.util.Random;

/** Runs of calls that a seed decides, each call asked of the program and of the reference. */
public final class ReferenceTest {
    private static final int RUNS = 150;
    private static final int CALLS = 512;

    private final Check check = new Check();
    private final Random random;
    private final int seed;
    private final TuningTables tables = new TuningTables();
    private final Reference reference = new Reference();
    private int calls = 0;

    private ReferenceTest(int seed) {
        this.seed = seed;
        random = new Random(seed);
    }

    public static void main(String[] args) {
        int failed = 0;
        for (int seed = 0; seed < RUNS && failed < 5; seed++) {
            ReferenceTest run = new ReferenceTest(seed);
            run.play();
            failed += run.check.isClean() ? 0 : 1;
        }
        System.out.println(failed + " runs differ from the reference");
        if (failed != 0) {
            System.exit(1);
        }
    }

    private void play() {
        while (calls < CALLS && check.isClean()) {
            switch (random.nextInt(4)) {
                case 0 -> spell(soundText());
                case 1 -> spell(random.nextInt(3) == 0 ? roughText() : damaged(soundText()));
                case 2 -> makeChain();
                default -> { }
            }
            int questions = random.nextInt(60);
            for (int question = 0; question < questions && calls < CALLS; question++) {
                ask();
            }
        }
    }

    private void due(String call, int got, int want) {
        calls++;
        check.due("seed " + seed + ", call " + calls + ": " + call, got, want);
    }

    private void spell(String text) {
        for (int at = 0; at < text.length() && calls < CALLS - 2; at++) {
            int c = text.charAt(at);
            due("sign(" + c + ")", tables.sign(c), reference.sign(c));
        }
        due("read()", tables.read(), reference.read());
        due("place()", tables.place(), reference.place());
    }

    private String soundText() {
        StringBuilder text = new StringBuilder();
        int pitches = random.nextInt(random.nextInt(4) == 0 ? 26 : 8);
        for (int pitch = 0; pitch < pitches; pitch++) {
            text.append(product(random.nextInt(6)));
            if (random.nextInt(4) != 0) {
                text.append("/").append(product(random.nextInt(6)));
            }
            text.append(random.nextInt(9) == 0 ? "#x\n" : random.nextBoolean() ? " " : "\n");
        }
        int factor = random.nextInt(5) == 0 ? product(2) : 1;
        int period = 2 + random.nextInt(random.nextInt(5) == 0 ? 14 : 12);
        text.append(period * factor);
        return factor == 1 ? text.toString() : text.append("/").append(factor).toString();
    }

    private int product(int factors) {
        int[] primes = {2, 3, 5, 7, 11, 13};
        int product = 1;
        for (int factor = 0; factor < factors; factor++) {
            int next = product * primes[random.nextInt(6)];
            product = next > 999999 ? product : next;
        }
        return product;
    }

    private String damaged(String text) {
        StringBuilder damaged = new StringBuilder(text);
        for (int times = random.nextInt(3); times >= 0; times--) {
            damaged.insert(random.nextInt(damaged.length() + 1), pick("0123456789//# \na~17"));
        }
        return damaged.toString();
    }

    private String roughText() {
        StringBuilder text = new StringBuilder();
        for (int length = random.nextInt(random.nextInt(8) == 0 ? 320 : 30); length > 0; length--) {
            text.append(random.nextInt(40) == 0 ? (char) random.nextInt(300) : pick("0123468/ \n#"));
        }
        return text.toString();
    }

    private char pick(String characters) {
        return characters.charAt(random.nextInt(characters.length()));
    }

    private void makeChain() {
        int n = random.nextInt(20) == 0 ? number(0, 25) : 1 + random.nextInt(24);
        int[] e = new int[6];
        for (int prime = 0; prime < 6; prime++) {
            e[prime] = random.nextInt(80) == 0 ? number(-2, 2) : random.nextInt(3) == 0 ? 0 : random.nextInt(5) - 2;
        }
        due("chain(" + n + ", " + java.util.Arrays.toString(e) + ")",
            tables.chain(n, e[0], e[1], e[2], e[3], e[4], e[5]), reference.chain(n, e));
    }

    /** A number in its bounds mostly, sometimes one beside them, seldom one far off. */
    private int number(int least, int greatest) {
        int chance = random.nextInt(40);
        if (chance == 0) {
            return random.nextInt();
        }
        if (chance == 1) {
            return random.nextBoolean() ? Integer.MIN_VALUE : Integer.MAX_VALUE;
        }
        int beside = chance < 6 ? 1 : 0;
        return least - beside + random.nextInt(greatest - least + 1 + 2 * beside);
    }

    private void ask() {
        int n = reference.steps();
        int step = number(0, n - 1);
        int other = number(0, n);
        int prime = number(0, 5);
        int m = number(1, 36);
        int k = number(-200, 200);
        int i = number(0, 9);
        switch (random.nextInt(14)) {
            case 0 -> due("steps()", tables.steps(), n);
            case 1 -> due("exponent(" + other + ", " + prime + ")", tables.exponent(other, prime), reference.exponent(other, prime));
            case 2 -> due("key(" + k + ", " + prime + ")", tables.key(k, prime), reference.key(k, prime));
            case 3 -> due("compare(" + step + ", " + other + ")", tables.compare(step, other), reference.compare(step, other));
            case 4 -> due("reduce(" + step + ")", tables.reduce(step), reference.reduce(step));
            case 5 -> due("order(" + step + ")", tables.order(step), reference.order(step));
            case 6 -> due("gap(" + step + ", " + prime + ")", tables.gap(step, prime), reference.gap(step, prime));
            case 7 -> due("gaps()", tables.gaps(), reference.gaps());
            case 8 -> due("degree(" + step + ", " + m + ")", tables.degree(step, m), reference.degree(step, m));
            case 9 -> due("prime(" + prime + ", " + m + ")", tables.prime(prime, m), reference.prime(prime, m));
            case 10 -> due("makes(" + step + ", " + m + ")", tables.makes(step, m), reference.makes(step, m));
            case 11 -> due("tempers(" + step + ")", tables.tempers(step), reference.tempers(step));
            case 12 -> due("place()", tables.place(), reference.place());
            default -> due("term(" + step + ", " + i + ")", tables.term(step, i), reference.term(step, i));
        }
    }
}
