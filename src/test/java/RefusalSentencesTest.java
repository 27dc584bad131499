import java.util.List;
import java.util.function.Consumer;

/**
 * "Calls answer, the first of these that fits: UNKNOWN, OUTSIDE, STATE, ROOM; then nothing changes", for
 * every promise that has a refusal: what is due where two of them fit, and that nothing has changed.
 */
public final class RefusalSentencesTest {
    private static final int UNKNOWN = Trial.UNKNOWN, OUTSIDE = Trial.OUTSIDE, STATE = Trial.STATE, ROOM = Trial.ROOM, WIDE = Trial.WIDE;

    public static void main(String[] args) throws IllegalAccessException {
        Sentences.runAll(RefusalSentencesTest.class);
    }

    /** A SCALE from a TEXT, a FAULT at place 4 behind it, and a TEXT that has begun: "7/4 ". */
    private static Trial begun() {
        return Trial.of("5/4 9/2 1/3 3", 4).spell("3/2 17").read(-13).place(4).spell("7/4 ");
    }

    /** A CHAIN of the most STEPS with a PERIOD of 3. */
    private static Trial chained() {
        return Trial.of("3", 1).spell("3/2 17").read(-13).chain(24, 24, -1, 0, 1).spell("7/4 ");
    }

    /** Refused calls, made on each of those: what was seen before is seen still, and the TEXT goes on where it was. */
    private static void changeNothing(Consumer<Trial> refused) {
        Trial[] trials = {begun(), chained()};
        for (Trial trial : trials) {
            List<Integer> before = trial.seen();
            refused.accept(trial);
            trial.stillSeen(before).place(4).sign('1', 5).sign('2', 6).read(2).place(Trial.NONE).note(0).note(1, -2, 0, 0, 1).note(2, 2, 1);
        }
    }

    @Sentence("Calls answer, the first of these that fits .. OUTSIDE .. ROOM; then nothing changes")
    private static void promise2_signRefused() {
        changeNothing(trial -> trial.sign(9, OUTSIDE).sign(127, OUTSIDE).sign(-1, OUTSIDE).sign(10 + 256, OUTSIDE));
        Trial full = Trial.of("5/4 9/2 3", 3).spell("3/2 17").read(-13).spell("7/4 12" + " ".repeat(294));
        List<Integer> before = full.seen();
        full.sign('0', ROOM).sign(' ', ROOM).sign(127, OUTSIDE).sign(0, OUTSIDE).sign('0', ROOM).stillSeen(before)
            .read(2).note(1, -2, 0, 0, 1).note(2, 2, 1).sign(' ', 1);
    }

    @Sentence("Calls answer, the first of these that fits: UNKNOWN .. OUTSIDE .. then nothing changes")
    private static void promise6_exponentRefused() {
        changeNothing(trial -> trial.exponent(25, 0, UNKNOWN).exponent(-1, 0, UNKNOWN).exponent(25, 6, UNKNOWN).exponent(-1, -1, UNKNOWN)
            .exponent(4, 6, OUTSIDE).exponent(0, -1, OUTSIDE));
    }

    @Sentence("Calls answer, the first of these that fits .. OUTSIDE .. then nothing changes")
    private static void promise7_keyRefused() {
        changeNothing(trial -> trial.key(201, 0, OUTSIDE).key(-201, 0, OUTSIDE).key(0, 6, OUTSIDE).key(0, -1, OUTSIDE)
            .key(201, 6, OUTSIDE).key(-201, -1, OUTSIDE));
    }

    @Sentence("Calls answer, the first of these that fits: UNKNOWN .. then nothing changes")
    private static void promise8_compareRefused() {
        changeNothing(trial -> trial.compare(25, 0, UNKNOWN).compare(0, 25, UNKNOWN).compare(-1, 0, UNKNOWN).compare(0, -1, UNKNOWN)
            .compare(25, -1, UNKNOWN).compare(25, 25, UNKNOWN));
    }

    @Sentence("Calls answer, the first of these that fits: UNKNOWN .. then nothing changes")
    private static void promise9_reduceRefused() {
        changeNothing(trial -> trial.reduce(24, UNKNOWN).reduce(25, UNKNOWN).reduce(-1, UNKNOWN));
    }

    @Sentence("Calls answer, the first of these that fits: UNKNOWN .. then nothing changes")
    private static void promise10_orderRefused() {
        changeNothing(trial -> trial.order(24, UNKNOWN).order(25, UNKNOWN).order(-1, UNKNOWN));
    }

    @Sentence("Calls answer, the first of these that fits: UNKNOWN .. OUTSIDE .. then nothing changes")
    private static void promise11_gapRefused() {
        changeNothing(trial -> trial.gap(24, 0, UNKNOWN).gap(-1, 0, UNKNOWN).gap(24, 6, UNKNOWN).gap(-1, -1, UNKNOWN)
            .gap(3, 6, OUTSIDE).gap(0, -1, OUTSIDE));
    }

    @Sentence("Calls answer, the first of these that fits .. OUTSIDE .. then nothing changes")
    private static void promise13_chainRefused() {
        changeNothing(trial -> trial.chain(OUTSIDE, 0, 0, 0, 0, 1).chain(OUTSIDE, 25, 0, 0, 0, 1).chain(OUTSIDE, -1, 0, 0, 0, 1));
        for (int prime = 0; prime < 6; prime++) {
            int[] low = {0, 1, 0, 1, 0, 1};
            int[] high = {0, 1, 0, 1, 0, 1};
            low[prime] = -3;
            high[prime] = 3;
            changeNothing(trial -> trial.chain(OUTSIDE, 2, low).chain(OUTSIDE, 2, high).chain(OUTSIDE, 25, high).chain(OUTSIDE, 0, low));
        }
    }

    @Sentence("Calls answer, the first of these that fits: UNKNOWN .. OUTSIDE .. then nothing changes")
    private static void promise14_degreeRefused() {
        changeNothing(trial -> trial.degree(24, 1, UNKNOWN).degree(-1, 1, UNKNOWN).degree(24, 0, UNKNOWN).degree(-1, 37, UNKNOWN)
            .degree(1, 0, OUTSIDE).degree(1, 37, OUTSIDE));
    }

    @Sentence("Calls answer, the first of these that fits .. OUTSIDE .. then nothing changes")
    private static void promise15_primeRefused() {
        changeNothing(trial -> trial.prime(6, 1, OUTSIDE).prime(-1, 1, OUTSIDE).prime(0, 0, OUTSIDE).prime(5, 37, OUTSIDE).prime(6, 37, OUTSIDE));
    }

    @Sentence("Calls answer, the first of these that fits: UNKNOWN .. OUTSIDE .. then nothing changes")
    private static void promise16_makesRefused() {
        changeNothing(trial -> trial.makes(24, 1, UNKNOWN).makes(-1, 1, UNKNOWN).makes(24, 0, UNKNOWN).makes(-1, 37, UNKNOWN)
            .makes(1, 0, OUTSIDE).makes(1, 37, OUTSIDE));
    }

    @Sentence("Calls answer, the first of these that fits: UNKNOWN .. then nothing changes")
    private static void promise17_tempersRefused() {
        changeNothing(trial -> trial.tempers(24, UNKNOWN).tempers(25, UNKNOWN).tempers(-1, UNKNOWN));
    }

    @Sentence("Calls answer, the first of these that fits: UNKNOWN .. OUTSIDE .. STATE .. then nothing changes")
    private static void promise18_termRefused() {
        changeNothing(trial -> trial.term(24, 0, UNKNOWN).term(-1, 0, UNKNOWN).term(24, 10, UNKNOWN).term(-1, -1, UNKNOWN)
            .term(0, 10, OUTSIDE).term(0, -1, OUTSIDE).term(1, 10, OUTSIDE).term(0, 0, STATE).term(0, 9, STATE));
    }

    @Sentence("Nothing is promised beyond the answers and state changes described above")
    private static void promises4To12And14To18_askingChangesNothing() {
        changeNothing(trial -> trial.place(4).term(1, 9, WIDE).degree(0, 36, 0).makes(0, 36, 0).prime(1, 36, 36).tempers(0, 1));
    }

    @Sentence("A number that is asked may be below 0 itself; so these are far off.")
    private static void promises1To18_theConstants() {
        Trial.CHECK.due("NONE", TuningTables.NONE, -1000001);
        Trial.CHECK.due("UNKNOWN", TuningTables.UNKNOWN, -1000002);
        Trial.CHECK.due("OUTSIDE", TuningTables.OUTSIDE, -1000003);
        Trial.CHECK.due("STATE", TuningTables.STATE, -1000004);
        Trial.CHECK.due("ROOM", TuningTables.ROOM, -1000005);
        Trial.CHECK.due("WIDE", TuningTables.WIDE, -1000006);
    }
}
