/** Each promise of the document: ordinary inputs, the edges that it names, and wrong inputs. */
public final class PromisesTest {
    private static final int NONE = -1000001, UNKNOWN = -1000002, OUTSIDE = -1000003, STATE = -1000004, ROOM = -1000005, WIDE = -1000006;
    private static final String MAJOR = "9/8 5/4 4/3 3/2 5/3 15/8 2";
    private static final int[] FAR = {Integer.MIN_VALUE, -1000002, Integer.MAX_VALUE};
    private static final Check CHECK = new Check();

    public static void main(String[] args) {
        newObject();
        sign();
        readScales();
        readFaults();
        readFaultsInTheirOrder();
        readKeepsAndEmpties();
        place();
        steps();
        exponent();
        key();
        compare();
        reduce();
        order();
        gap();
        gaps();
        chain();
        chainOutside();
        degree();
        prime();
        makes();
        tempers();
        term();
        termWide();
        firstThatFits();
        CHECK.end();
    }

    private static void due(String call, long got, long want) {
        CHECK.due(call, got, want);
    }

    private static int readText(TuningTables tables, String text) {
        for (int at = 0; at < text.length(); at++) {
            due("sign in " + text, tables.sign(text.charAt(at)), at + 1);
        }
        return tables.read();
    }

    private static TuningTables scaleOf(String text, int steps) {
        TuningTables tables = new TuningTables();
        due("read() of " + text, readText(tables, text), steps);
        return tables;
    }

    private static void dueExponents(TuningTables tables, int step, int... exponents) {
        for (int prime = 0; prime < 6; prime++) {
            due("exponent(" + step + ", " + prime + ")", tables.exponent(step, prime), exponents[prime]);
        }
    }

    private static void dueFault(String text, int fault, int place) {
        TuningTables tables = new TuningTables();
        due("read() of '" + text + "'", readText(tables, text), -10 - fault);
        due("place() of '" + text + "'", tables.place(), place);
        due("steps() behind '" + text + "'", tables.steps(), 1);
    }

    private static void newObject() {
        due("NONE", TuningTables.NONE, NONE);
        due("UNKNOWN", TuningTables.UNKNOWN, UNKNOWN);
        due("OUTSIDE", TuningTables.OUTSIDE, OUTSIDE);
        due("STATE", TuningTables.STATE, STATE);
        due("ROOM", TuningTables.ROOM, ROOM);
        due("WIDE", TuningTables.WIDE, WIDE);
        TuningTables tables = new TuningTables();
        due("new: steps()", tables.steps(), 1);
        dueExponents(tables, 0, 0, 0, 0, 0, 0, 0);
        dueExponents(tables, 1, 1, 0, 0, 0, 0, 0);
        due("new: place()", tables.place(), NONE);
        due("new: order(0)", tables.order(0), 0);
        due("new: gaps()", tables.gaps(), 1);
        due("new: gap(0, 0)", tables.gap(0, 0), 1);
        due("new: reduce(0)", tables.reduce(0), 0);
        due("new: prime(1, 12)", tables.prime(1, 12), 19);
        due("new: sign('2')", tables.sign('2'), 1);
    }

    private static void sign() {
        TuningTables tables = new TuningTables();
        for (int c : new int[] {9, 11, 31, 127, 128, 0, -1, 10 - 256, 10 + 256, Integer.MIN_VALUE, Integer.MAX_VALUE}) {
            due("sign(" + c + ")", tables.sign(c), OUTSIDE);
        }
        int length = 0;
        for (int c = 32; c <= 126; c++) {
            due("sign(" + c + ")", tables.sign(c), ++length);
        }
        while (length < 300) {
            due("sign(10)", tables.sign(10), ++length);
        }
        due("sign at 300", tables.sign('2'), ROOM);
        due("wrong sign at 300", tables.sign(127), OUTSIDE);
        due("read() of 300", tables.read(), -11);
        due("place() in 300", tables.place(), 1);
        due("sign behind read()", tables.sign('2'), 1);
    }

    private static void readScales() {
        TuningTables tables = scaleOf(MAJOR, 7);
        dueExponents(tables, 1, -3, 2, 0, 0, 0, 0);
        dueExponents(tables, 6, -3, 1, 1, 0, 0, 0);
        dueExponents(tables, 7, 1, 0, 0, 0, 0, 0);
        dueExponents(scaleOf("2/4 13/11 7\n12", 4), 1, -1, 0, 0, 0, 0, 0);
        dueExponents(scaleOf("2/4 13/11 7\n12", 4), 3, 0, 0, 0, 1, 0, 0);
        dueExponents(scaleOf("13/11 12", 2), 1, 0, 0, 0, 0, -1, 1);
        dueExponents(scaleOf("524288/531441 13", 2), 1, 19, -12, 0, 0, 0, 0);
        dueExponents(scaleOf("000007 000002", 2), 1, 0, 0, 0, 1, 0, 0);
        dueExponents(scaleOf("1001/1001 2", 2), 1, 0, 0, 0, 0, 0, 0);
        dueExponents(scaleOf("990000/900900 2", 2), 1, 2, 0, 2, -1, 0, -1);
        dueExponents(scaleOf("#a/b?\n3 \n / # 17\n#\n2#0\n\n4# 1/", 2), 1, -1, 1, 0, 0, 0, 0);
        for (int period = 2; period <= 13; period++) {
            due("read() of a PERIOD", readText(new TuningTables(), "" + period), 1);
        }
        dueExponents(scaleOf("26/2", 1), 1, 0, 0, 0, 0, 0, 1);
        dueExponents(scaleOf("792000/66000", 1), 1, 2, 1, 0, 0, 0, 0);
        dueExponents(scaleOf("3/2\n".repeat(23) + "3", 24), 23, -1, 1, 0, 0, 0, 0);
    }

    private static void readFaults() {
        dueFault("a", 1, 0);
        dueFault("2 3/2a", 1, 5);
        dueFault("2-", 1, 1);
        dueFault("2 .", 1, 2);
        dueFault("1000000", 1, 0);
        dueFault("2 0000002", 1, 2);
        dueFault("3/1234567 2", 1, 2);
        dueFault("", 2, 0);
        dueFault("  \n", 2, 3);
        dueFault("# 2", 2, 3);
        dueFault("/", 2, 0);
        dueFault("3/", 2, 2);
        dueFault("3/ #2", 2, 5);
        dueFault("3//2", 2, 2);
        dueFault("3/2/2", 2, 3);
        dueFault("3/2 /2", 2, 4);
        dueFault("0 2", 3, 0);
        dueFault("000000 2", 3, 0);
        dueFault("3/0 2", 3, 2);
        dueFault("2 17", 3, 2);
        dueFault("3/34 2", 3, 2);
        dueFault("17/17 2", 3, 0);
        dueFault("999999 2", 3, 0);
        dueFault("999983 2", 3, 0);
        dueFault("1 ".repeat(24) + "2", 4, 48);
        dueFault("3/2 ".repeat(24) + "2", 4, 96);
        dueFault("1", 5, 0);
        dueFault("3/2", 5, 0);
        dueFault("2 1/2", 5, 2);
        dueFault("2 14", 5, 2);
        dueFault("2 15/1", 5, 2);
        dueFault("2 # x\n 28 / 2 ", 5, 7);
        dueFault("3/2 7/7", 5, 4);
    }

    private static void readFaultsInTheirOrder() {
        dueFault("17 a", 3, 0);
        dueFault("a 17", 1, 0);
        dueFault("3//a", 2, 2);
        dueFault("3/a/", 1, 2);
        dueFault("14 /", 2, 4);
        dueFault("17/", 3, 0);
        dueFault("1 0/", 3, 2);
        dueFault("3/2 1/17 3/2/", 3, 6);
        dueFault("1 ".repeat(24) + "17", 4, 48);
        dueFault("1 ".repeat(24) + "0", 4, 48);
        dueFault("1 ".repeat(24) + "1234567", 1, 48);
        dueFault("1 ".repeat(24) + "?", 1, 48);
        dueFault("1 ".repeat(24) + "2/", 4, 48);
        dueFault("1 ".repeat(23) + "1/ /", 2, 49);
        dueFault("1 ".repeat(23) + "1/17 2", 3, 48);
        dueFault("1 ".repeat(23) + "14/1 2", 4, 51);
        dueFault("1 ".repeat(24), 5, 46);
    }

    private static void readKeepsAndEmpties() {
        TuningTables tables = scaleOf(MAJOR, 7);
        due("read() of nothing", tables.read(), -12);
        due("place()", tables.place(), 0);
        due("steps()", tables.steps(), 7);
        due("read() with a FAULT", readText(tables, "4/3 5/3 3 17"), -13);
        due("steps()", tables.steps(), 7);
        dueExponents(tables, 1, -3, 2, 0, 0, 0, 0);
        dueExponents(tables, 7, 1, 0, 0, 0, 0, 0);
        due("gaps()", tables.gaps(), 3);
        due("prime(0, 12)", tables.prime(0, 12), 12);
        due("read() of a PERIOD alone", readText(tables, "3"), 1);
        dueExponents(tables, 1, 0, 1, 0, 0, 0, 0);
        due("prime(0, 12)", tables.prime(0, 12), 8);
        due("gaps()", tables.gaps(), 1);
    }

    private static void place() {
        TuningTables tables = new TuningTables();
        due("place()", tables.place(), NONE);
        due("read()", readText(tables, "3/2 17"), -13);
        due("place()", tables.place(), 4);
        due("place() again", tables.place(), 4);
        due("chain", tables.chain(3, 0, 1, 0, 0, 0, 0), 3);
        due("sign", tables.sign('2'), 1);
        due("place() of the latest read()", tables.place(), 4);
        due("read()", tables.read(), 1);
        due("place() without FAULT", tables.place(), NONE);
    }

    private static void steps() {
        TuningTables tables = new TuningTables();
        due("steps()", tables.steps(), 1);
        due("read()", readText(tables, "1 1 1 2"), 4);
        due("steps()", tables.steps(), 4);
        due("chain", tables.chain(24, 1, 1, 1, 0, 0, 0), 24);
        due("steps()", tables.steps(), 24);
        due("chain", tables.chain(1, 1, 1, 1, 0, 0, 0), 1);
        due("steps()", tables.steps(), 1);
    }

    private static void exponent() {
        TuningTables tables = scaleOf("16/13 10", 2);
        dueExponents(tables, 0, 0, 0, 0, 0, 0, 0);
        dueExponents(tables, 1, 4, 0, 0, 0, 0, -1);
        dueExponents(tables, 2, 1, 0, 1, 0, 0, 0);
        due("exponent(3, 0)", tables.exponent(3, 0), UNKNOWN);
        due("exponent(-1, 0)", tables.exponent(-1, 0), UNKNOWN);
        due("exponent(0, -1)", tables.exponent(0, -1), OUTSIDE);
        due("exponent(2, 6)", tables.exponent(2, 6), OUTSIDE);
        for (int far : FAR) {
            due("exponent far", tables.exponent(far, 0), UNKNOWN);
            due("exponent far", tables.exponent(1, far), OUTSIDE);
        }
    }

    private static void key() {
        TuningTables tables = scaleOf("3/2 5 12", 3);
        due("key(0, 0)", tables.key(0, 0), 0);
        due("key(1, 0)", tables.key(1, 0), -1);
        due("key(2, 2)", tables.key(2, 2), 1);
        due("key(3, 0)", tables.key(3, 0), 2);
        due("key(4, 1)", tables.key(4, 1), 2);
        due("key(-1, 0)", tables.key(-1, 0), -2);
        due("key(-1, 2)", tables.key(-1, 2), 1);
        due("key(-2, 0)", tables.key(-2, 0), -3);
        due("key(-3, 1)", tables.key(-3, 1), -1);
        due("key(200, 0)", tables.key(200, 0), 132);
        due("key(200, 2)", tables.key(200, 2), 1);
        due("key(-200, 0)", tables.key(-200, 0), -135);
        due("key(201, 0)", tables.key(201, 0), OUTSIDE);
        due("key(-201, 0)", tables.key(-201, 0), OUTSIDE);
        due("key(0, 6)", tables.key(0, 6), OUTSIDE);
        due("key(0, -1)", tables.key(0, -1), OUTSIDE);
        due("key of 8", scaleOf("8", 1).key(-200, 0), -600);
        for (int far : FAR) {
            due("key far", tables.key(far, 0), OUTSIDE);
            due("key far", tables.key(0, far), OUTSIDE);
        }
    }

    private static void compare() {
        TuningTables tables = scaleOf("3/2 6/4 531441/524288 1/2 7 2", 6);
        due("compare(1, 0)", tables.compare(1, 0), 1);
        due("compare(0, 1)", tables.compare(0, 1), -1);
        due("compare(1, 2)", tables.compare(1, 2), 0);
        due("compare(3, 0)", tables.compare(3, 0), 1);
        due("compare(0, 3)", tables.compare(0, 3), -1);
        due("compare(4, 0)", tables.compare(4, 0), -1);
        due("compare(5, 6)", tables.compare(5, 6), 1);
        due("compare(6, 6)", tables.compare(6, 6), 0);
        due("compare(6, 1)", tables.compare(6, 1), 1);
        due("compare(7, 0)", tables.compare(7, 0), UNKNOWN);
        due("compare(0, 7)", tables.compare(0, 7), UNKNOWN);
        due("compare(-1, 0)", tables.compare(-1, 0), UNKNOWN);
        due("compare(0, -1)", tables.compare(0, -1), UNKNOWN);
        due("compare of near ones", scaleOf("123201/123200 27225/27225 2", 3).compare(1, 2), 1);
        for (int far : FAR) {
            due("compare far", tables.compare(far, 0), UNKNOWN);
            due("compare far", tables.compare(0, far), UNKNOWN);
        }
    }

    private static void reduce() {
        TuningTables tables = scaleOf("3/2 9 9/10 1/9 1/27 8 26 3", 8);
        int[] taken = {0, 0, 2, -1, -2, -3, 1, 2};
        for (int step = 0; step < 8; step++) {
            due("reduce(" + step + ")", tables.reduce(step), taken[step]);
        }
        due("reduce(8)", tables.reduce(8), UNKNOWN);
        due("reduce(-1)", tables.reduce(-1), UNKNOWN);
        due("reduce of the greatest", scaleOf("995328/1 1/995328 2", 3).reduce(1), 19);
        due("reduce of the least", scaleOf("995328/1 1/995328 2", 3).reduce(2), -20);
        for (int far : FAR) {
            due("reduce far", tables.reduce(far), UNKNOWN);
        }
    }

    private static void order() {
        TuningTables tables = scaleOf("7/4 3 1/3 5/2 4 3/2 2", 7);
        int[] sorted = {0, 5, 4, 3, 2, 6, 1};
        for (int i = 0; i < 7; i++) {
            due("order(" + i + ")", tables.order(i), sorted[i]);
        }
        due("order(7)", tables.order(7), UNKNOWN);
        due("order(-1)", tables.order(-1), UNKNOWN);
        for (int far : FAR) {
            due("order far", tables.order(far), UNKNOWN);
        }
    }

    private static void gap() {
        TuningTables tables = scaleOf("5/2 3 1/3 2", 4);
        int[][] gaps = {{-2, 0, 1}, {4, -1, -1}, {-3, 2, 0}, {2, -1, 0}};
        for (int i = 0; i < 4; i++) {
            for (int prime = 0; prime < 3; prime++) {
                due("gap(" + i + ", " + prime + ")", tables.gap(i, prime), gaps[i][prime]);
            }
            due("gap(" + i + ", 5)", tables.gap(i, 5), 0);
        }
        due("gap(4, 0)", tables.gap(4, 0), UNKNOWN);
        due("gap(-1, 0)", tables.gap(-1, 0), UNKNOWN);
        due("gap(0, 6)", tables.gap(0, 6), OUTSIDE);
        due("gap(0, -1)", tables.gap(0, -1), OUTSIDE);
        due("gap of one STEP", scaleOf("12", 1).gap(0, 0), 2);
        for (int far : FAR) {
            due("gap far", tables.gap(far, 0), UNKNOWN);
            due("gap far", tables.gap(0, far), OUTSIDE);
        }
    }

    private static void gaps() {
        due("gaps() of MAJOR", scaleOf(MAJOR, 7).gaps(), 3);
        due("gaps() of equal STEPS", scaleOf("1 2 4 2", 4).gaps(), 2);
        due("gaps() of equal GAPS", scaleOf("2 4", 2).gaps(), 1);
        due("gaps() all different", scaleOf("11/10 5/4 13/8 2", 4).gaps(), 4);
        due("gaps() with each PRIME", scaleOf("13/12 7/6 11/9 2", 4).gaps(), 4);
        TuningTables tables = new TuningTables();
        int[] different = {1, 2, 2, 3, 2, 3, 2, 3, 3, 3, 3, 2};
        for (int n = 1; n <= 12; n++) {
            due("chain", tables.chain(n, 0, 1, 0, 0, 0, 0), n);
            due("gaps() of " + n + " fifths", tables.gaps(), different[n - 1]);
        }
    }

    private static void chain() {
        TuningTables tables = new TuningTables();
        due("chain of fifths", tables.chain(7, -1, 1, 0, 0, 0, 0), 7);
        int[][] lydian = {{0, 0}, {-3, 2}, {-6, 4}, {-9, 6}, {-1, 1}, {-4, 3}, {-7, 5}, {1, 0}};
        for (int step = 0; step <= 7; step++) {
            dueExponents(tables, step, lydian[step][0], lydian[step][1], 0, 0, 0, 0);
        }
        due("chain of fourths", tables.chain(3, 0, -1, 0, 0, 0, 0), 3);
        dueExponents(tables, 1, 2, -1, 0, 0, 0, 0);
        dueExponents(tables, 2, 4, -2, 0, 0, 0, 0);
        due("chain of PERIODS", tables.chain(24, 2, 0, 0, 0, 0, 0), 24);
        dueExponents(tables, 23, 0, 0, 0, 0, 0, 0);
        due("gaps()", tables.gaps(), 2);
        due("compare(0, 23)", tables.compare(0, 23), 0);
        due("a PERIOD of 4", readText(tables, "4"), 1);
        due("chain that meets the PERIOD", tables.chain(4, 1, 0, 0, 0, 0, 0), 4);
        int[] halves = {0, 0, 1, 1, 2};
        for (int step = 0; step <= 4; step++) {
            dueExponents(tables, step, halves[step], 0, 0, 0, 0, 0);
        }
        due("a PERIOD of 3", readText(tables, "5/3 3"), 2);
        due("chain", tables.chain(4, 0, 0, -1, 1, 0, 0), 4);
        dueExponents(tables, 4, 0, 1, 0, 0, 0, 0);
        dueExponents(tables, 1, 0, 0, -1, 1, 0, 0);
        dueExponents(tables, 3, 0, 0, -3, 3, 0, 0);
        due("chain with all edges", tables.chain(2, 2, -2, 2, -2, 2, -2), 2);
        dueExponents(tables, 1, 2, 0, 2, -2, 2, -2);
        due("a longest chain", tables.chain(24, 2, 2, 2, 2, 2, 2), 24);
        for (int step = 0; step < 24; step++) {
            due("reduce in a chain", tables.reduce(step), 0);
            due("order in a chain", tables.order(step), step);
            due("compare in a chain", tables.compare(step, step + 1), -1);
        }
    }

    private static void chainOutside() {
        TuningTables tables = scaleOf("5/4 3/2 2", 3);
        int[] outside = {-3, 3, Integer.MIN_VALUE, Integer.MAX_VALUE};
        for (int e : outside) {
            due("chain e2", tables.chain(3, e, 0, 0, 0, 0, 0), OUTSIDE);
            due("chain e3", tables.chain(3, 0, e, 0, 0, 0, 0), OUTSIDE);
            due("chain e5", tables.chain(3, 0, 0, e, 0, 0, 0), OUTSIDE);
            due("chain e7", tables.chain(3, 0, 0, 0, e, 0, 0), OUTSIDE);
            due("chain e11", tables.chain(3, 0, 0, 0, 0, e, 0), OUTSIDE);
            due("chain e13", tables.chain(3, 0, 0, 0, 0, 0, e), OUTSIDE);
        }
        for (int n : new int[] {0, 25, -1, Integer.MIN_VALUE, Integer.MAX_VALUE}) {
            due("chain n", tables.chain(n, 0, 0, 0, 0, 0, 0), OUTSIDE);
        }
        due("steps()", tables.steps(), 3);
        dueExponents(tables, 1, -2, 0, 1, 0, 0, 0);
    }

    private static void degree() {
        TuningTables tables = scaleOf(MAJOR, 7);
        int[] twelve = {0, 2, 4, 5, 7, 9, 11};
        int[] thirtyOne = {0, 5, 10, 13, 18, 23, 28};
        for (int step = 0; step < 7; step++) {
            due("degree(" + step + ", 12)", tables.degree(step, 12), twelve[step]);
            due("degree(" + step + ", 31)", tables.degree(step, 31), thirtyOne[step]);
        }
        due("degree(7, 12)", tables.degree(7, 12), UNKNOWN);
        due("degree(-1, 12)", tables.degree(-1, 12), UNKNOWN);
        due("degree(1, 0)", tables.degree(1, 0), OUTSIDE);
        due("degree(1, 37)", tables.degree(1, 37), OUTSIDE);
        for (int far : FAR) {
            due("degree far", tables.degree(far, 1), UNKNOWN);
            due("degree far", tables.degree(1, far), OUTSIDE);
        }
        TuningTables ties = scaleOf("2 1/2 8 1/8 4 1/4 3 4", 8);
        int[] one = {0, 0, -1, 1, -2, 1, -1, 1};
        int[] thirtyFive = {0, 17, -18, 52, -53, 35, -35, 28};
        for (int step = 0; step < 8; step++) {
            due("degree(" + step + ", 1) of 4", ties.degree(step, 1), one[step]);
            due("degree(" + step + ", 35) of 4", ties.degree(step, 35), thirtyFive[step]);
        }
        TuningTables widest = scaleOf("995328 1/995328 2", 3);
        due("the greatest degree", widest.degree(1, 36), 717);
        due("the least degree", widest.degree(2, 36), -717);
    }

    private static void prime() {
        TuningTables tables = new TuningTables();
        int[] twelve = {12, 19, 28, 34, 42, 44};
        int[] one = {1, 2, 2, 3, 3, 4};
        for (int prime = 0; prime < 6; prime++) {
            due("prime(" + prime + ", 12)", tables.prime(prime, 12), twelve[prime]);
            due("prime(" + prime + ", 1)", tables.prime(prime, 1), one[prime]);
        }
        due("prime(5, 36)", tables.prime(5, 36), 133);
        due("prime(-1, 12)", tables.prime(-1, 12), OUTSIDE);
        due("prime(6, 12)", tables.prime(6, 12), OUTSIDE);
        due("prime(0, 0)", tables.prime(0, 0), OUTSIDE);
        due("prime(0, 37)", tables.prime(0, 37), OUTSIDE);
        for (int far : FAR) {
            due("prime far", tables.prime(far, 1), OUTSIDE);
            due("prime far", tables.prime(1, far), OUTSIDE);
        }
        due("another PERIOD", readText(tables, "3"), 1);
        due("prime(0, 13) of 3", tables.prime(0, 13), 8);
        due("prime(2, 13) of 3", tables.prime(2, 13), 19);
        due("prime(0, 12) of 3", tables.prime(0, 12), 8);
        due("another PERIOD", readText(tables, "9"), 1);
        for (int m = 1; m <= 36; m++) {
            due("prime(1, " + m + ") of 9", tables.prime(1, m), m / 2);
        }
    }

    private static void makes() {
        TuningTables tables = scaleOf("81/80 128/125 13/11 1/3 2", 5);
        due("makes(0, 12)", tables.makes(0, 12), 0);
        due("makes(1, 12)", tables.makes(1, 12), 0);
        due("makes(1, 22)", tables.makes(1, 22), 1);
        due("makes(2, 12)", tables.makes(2, 12), 0);
        due("makes(2, 19)", tables.makes(2, 19), 1);
        due("makes(3, 12)", tables.makes(3, 12), 2);
        due("makes(4, 36)", tables.makes(4, 36), -57);
        due("makes(4, 1)", tables.makes(4, 1), -2);
        due("makes(5, 12)", tables.makes(5, 12), UNKNOWN);
        due("makes(-1, 12)", tables.makes(-1, 12), UNKNOWN);
        due("makes(1, 0)", tables.makes(1, 0), OUTSIDE);
        due("makes(1, 37)", tables.makes(1, 37), OUTSIDE);
        for (int far : FAR) {
            due("makes far", tables.makes(far, 1), UNKNOWN);
            due("makes far", tables.makes(1, far), OUTSIDE);
        }
    }

    private static void tempers() {
        TuningTables tables = scaleOf("9/8 531441/524288 3/2 1/3 2", 5);
        due("tempers(0)", tables.tempers(0), 1);
        due("tempers(1)", tables.tempers(1), 2);
        due("tempers(2)", tables.tempers(2), 12);
        due("tempers(3)", tables.tempers(3), NONE);
        due("tempers(4)", tables.tempers(4), NONE);
        due("tempers at its last m", scaleOf("975/896 10", 2).tempers(1), 36);
        due("tempers(5)", tables.tempers(5), UNKNOWN);
        due("tempers(-1)", tables.tempers(-1), UNKNOWN);
        for (int far : FAR) {
            due("tempers far", tables.tempers(far), UNKNOWN);
        }
    }

    private static void dueTerms(TuningTables tables, int step, int... terms) {
        for (int i = 0; i < terms.length; i++) {
            due("term(" + step + ", " + i + ")", tables.term(step, i), terms[i]);
        }
    }

    private static void term() {
        TuningTables tables = scaleOf("3/2 1 1/2 4 3 2", 6);
        dueTerms(tables, 1, 0, 1, 1, 2, 2, 3, 1, WIDE, WIDE, WIDE);
        dueTerms(tables, 4, 2, NONE, NONE, NONE, NONE, NONE, NONE, NONE, NONE, NONE);
        dueTerms(tables, 5, 1, 1, 1, 2, 2, 3, 1, WIDE);
        due("term of UNISON", tables.term(2, 0), STATE);
        due("term of a STEP below", tables.term(3, 0), STATE);
        due("term(0, 9)", tables.term(0, 9), STATE);
        due("term(1, 10)", tables.term(1, 10), OUTSIDE);
        due("term(1, -1)", tables.term(1, -1), OUTSIDE);
        due("term(6, 0)", tables.term(6, 0), UNKNOWN);
        due("term(-1, 0)", tables.term(-1, 0), UNKNOWN);
        for (int far : FAR) {
            due("term far", tables.term(far, 1), UNKNOWN);
            due("term far", tables.term(1, far), OUTSIDE);
        }
        dueTerms(scaleOf("2 32 8", 3), 1, 0, 3, NONE, NONE);
        dueTerms(scaleOf("2 32 8", 3), 2, 1, 1, 2, NONE, NONE);
    }

    private static void termWide() {
        TuningTables tables = scaleOf("81/80 9801/9800 123201/123200 3", 4);
        dueTerms(tables, 1, 0, 88, WIDE, WIDE);
        dueTerms(tables, 2, 0, WIDE, WIDE);
        dueTerms(tables, 3, 0, WIDE, WIDE);
        dueTerms(scaleOf("78/77 13", 2), 1, 0, 198, 1, WIDE);
        dueTerms(scaleOf("720/7 4", 2), 1, 3, 2, 1, 11, 1, 3, WIDE);
        dueTerms(scaleOf("27/8 6", 2), 1, 0, 1, 2, 8, 1, WIDE, WIDE);
        dueTerms(scaleOf("507/80 11", 2), 1, 0, 1, 3, 2, 1, 6, 1, WIDE);
        dueTerms(scaleOf("484/25 10", 2), 1, 1, 3, 2, 16, WIDE, WIDE);
        due("a chain", readText(tables, "2"), 1);
        due("a chain", tables.chain(24, 2, 2, 2, 2, 2, 2), 24);
        dueExponents(tables, 1, -638, 46, 46, 46, 46, 46);
        dueTerms(tables, 1, WIDE, WIDE);
        due("the last TERM", tables.term(1, 9), WIDE);
    }

    private static void firstThatFits() {
        TuningTables tables = new TuningTables();
        due("exponent(2, 6)", tables.exponent(2, 6), UNKNOWN);
        due("gap(1, 6)", tables.gap(1, 6), UNKNOWN);
        due("degree(1, 0)", tables.degree(1, 0), UNKNOWN);
        due("makes(1, 37)", tables.makes(1, 37), UNKNOWN);
        due("term(1, 10)", tables.term(1, 10), UNKNOWN);
        due("term(0, 10)", tables.term(0, 10), OUTSIDE);
        due("term(0, 0)", tables.term(0, 0), STATE);
    }
}
