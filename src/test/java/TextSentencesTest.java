import java.util.List;

/** Promises 1 to 4, and "Terms" at "==== 2" for them: each sentence that names a boundary case. */
public final class TextSentencesTest {
    private static final int NONE = Trial.NONE, UNKNOWN = Trial.UNKNOWN, OUTSIDE = Trial.OUTSIDE, ROOM = Trial.ROOM;
    private static final String PITCHES_23 = "1 ".repeat(23);
    private static final String PITCHES_24 = "1 ".repeat(24);
    private static final String NO_TOKENS = noTokens();
    private static final String[] FAULTY = {"?", "3//", "3 17", PITCHES_24 + "2", "3 14"};

    public static void main(String[] args) throws IllegalAccessException {
        Sentences.runAll(TextSentencesTest.class);
    }

    private static String noTokens() {
        StringBuilder bytes = new StringBuilder();
        for (char c = '!'; c <= '~'; c++) {
            if ("0123456789/#".indexOf(c) < 0) {
                bytes.append(c);
            }
        }
        return bytes.toString();
    }

    private static String filled(String text) {
        return text + " ".repeat(300 - text.length());
    }

    private static String behindBlanks(String text) {
        return " ".repeat(300 - text.length()) + text;
    }

    // ---- Promise 1: A new object

    @Sentence("At first it has one STEP, and the PERIOD 2. .. The SCALE as at first")
    private static void promise1_oneStepAndThePeriod2() {
        new Trial().steps(1).note(0).note(1, 1).exponent(2, 0, UNKNOWN);
        new Trial().reduce(0, 0).order(0, 0).order(1, UNKNOWN).gapNote(0, 1).gaps(1).key(-200, 0, -200);
        new Trial().prime(0, 36, 36).prime(1, 12, 19).degree(0, 36, 0).tempers(0, 1).compare(0, 1, -1);
    }

    @Sentence("an empty TEXT")
    private static void promise1_anEmptyText() {
        new Trial().sign('2', 1);
        new Trial().read(-12).place(0);
    }

    @Sentence("The SCALE as at first, an empty TEXT.")
    private static void promise1_eachObjectHasItsOwn() {
        Trial other = Trial.of("3/2 3", 2).spell("7/4 ");
        new Trial().steps(1).note(1, 1).place(NONE).sign('3', 1).read(1).note(1, 0, 1).read(-12).place(0);
        other.steps(2).note(1, -1, 1).place(NONE).sign('2', 5).read(2).note(1, -2, 0, 0, 1);
    }

    // ---- Promise 2: sign

    @Sentence("A byte comes behind the TEXT: how many it has.")
    private static void promise2_aByteComesBehindTheText() {
        new Trial().sign('1', 1).sign('2', 2).read(1).note(1, 2, 1);
        new Trial().sign('3', 1).sign(' ', 2).sign('5', 3).read(2).note(1, 0, 1).note(2, 0, 0, 1);
    }

    @Sentence("A TEXT has bytes 10 and 32 to 126 .. OUTSIDE")
    private static void promise2_bytes10And32To126() {
        for (int c = -300; c <= 600; c++) {
            boolean allowed = c == 10 || c >= 32 && c <= 126;
            new Trial().sign(c, allowed ? 1 : OUTSIDE).sign(' ', allowed ? 2 : 1);
        }
        for (int far : new int[] {Integer.MIN_VALUE, Integer.MIN_VALUE + 50, 65536 + 50, Integer.MAX_VALUE}) {
            new Trial().sign(far, OUTSIDE).sign(' ', 1);
        }
    }

    @Sentence("A TEXT has bytes .. 300 at most .. ROOM")
    private static void promise2_300AtMost() {
        Trial.of(behindBlanks("12"), 1).note(1, 2, 1);
        new Trial().spell(behindBlanks("12")).sign('0', ROOM).sign('?', ROOM).sign(10, ROOM).read(1).note(1, 2, 1);
        new Trial().spell(filled("12").substring(1)).sign(' ', 300).sign(' ', ROOM);
    }

    @Sentence("the first of these that fits: .. OUTSIDE .. ROOM")
    private static void promise2_outsideAheadOfRoom() {
        new Trial().spell(filled("2")).sign(127, OUTSIDE).sign(31, OUTSIDE).sign(126, ROOM).sign(32, ROOM).read(1);
    }

    @Sentence("OUTSIDE; .. then nothing changes")
    private static void promise2_aRefusedByteIsNotInTheText() {
        new Trial().sign('1', 1).sign(9, OUTSIDE).sign(0, OUTSIDE).sign('2', 2).sign(127, OUTSIDE).read(1).note(1, 2, 1);
    }

    // ---- Promise 3: read

    @Sentence("The TEXT, which is empty then")
    private static void promise3_theTextIsEmptyBehindAScale() {
        new Trial().spell("3/2 2").read(2).read(-12).place(0).sign('3', 1).read(1).note(1, 0, 1);
        new Trial().spell(filled("3")).read(1).sign('2', 1);
    }

    @Sentence("The TEXT, which is empty then .. -10 less its FAULT")
    private static void promise3_theTextIsEmptyBehindEachFault() {
        for (int fault = 1; fault <= 5; fault++) {
            new Trial().spell(FAULTY[fault - 1]).read(-10 - fault).sign('3', 1).read(1).note(1, 0, 1).place(NONE);
            new Trial().spell(filled(FAULTY[fault - 1])).read(-10 - fault).sign('3', 1);
            new Trial().spell(FAULTY[fault - 1]).read(-10 - fault).read(-12).place(0);
        }
    }

    @Sentence("(n from 1 to 24) .. is the SCALE: how many STEPS")
    private static void promise3_howManySteps() {
        for (int n = 1; n <= 24; n++) {
            new Trial().spell("3/2 ".repeat(n - 1) + "2").read(n).steps(n).exponent(n, 0, 1).exponent(n + 1, 0, UNKNOWN);
        }
    }

    @Sentence("they are STEPS 1, 2, .. of the SCALE, the last one is its PERIOD")
    private static void promise3_pitchesAreStepsAndTheLastOneIsThePeriod() {
        Trial.of("7/4 5/3 1/9 12", 4).note(0).note(1, -2, 0, 0, 1).note(2, 0, -1, 1).note(3, 0, -2).note(4, 2, 1);
        Trial.of("13", 1).note(0).note(1, 0, 0, 0, 0, 0, 1);
        Trial full = Trial.of("3 5 7 11 13 ".repeat(4) + "3 5 7 11", 24).note(0);
        for (int step = 1; step <= 24; step++) {
            full.exponent(step, 1 + (step - 1) % 5, 1);
        }
    }

    @Sentence("STEP 0 being UNISON")
    private static void promise3_step0IsUnisonBehindAnyOtherScale() {
        new Trial().chain(24, 24, 2, -2, 1, 1, -1, 2).spell("5/4 3/2 3").read(3).note(0).note(1, -2, 0, 1).note(2, -1, 1);
    }

    @Sentence("is the SCALE")
    private static void promise3_nothingIsLeftOfTheScaleBefore() {
        Trial.of("3/2 5/4 7/4 11/8 13/8 2", 6).spell("9/7 3").read(2).note(1, 0, 2, 0, -1).note(2, 0, 1)
            .exponent(3, 0, UNKNOWN).order(2, UNKNOWN).gaps(2).prime(1, 36, 36).prime(0, 36, 23)
            .spell("5 25 125 2").read(4).note(1, 0, 0, 1).note(3, 0, 0, 3).note(4, 1).prime(1, 36, 57);
    }

    @Sentence("NUMBERS (digits side by side, 6 at most)")
    private static void promise3_numbersOf6Digits() {
        Trial.of("999635/998816 2", 2).note(1, -5, 0, 1, -3, 0, 3);
        Trial.of("524288/531441 000013", 2).note(1, 19, -12).note(2, 0, 0, 0, 0, 0, 1);
        Trial.of("000001/000100 000002", 2).note(1, -2, 0, -2).note(2, 1);
        Trial.of("1000 100000/10 2", 3).note(1, 3, 0, 3).note(2, 4, 0, 4);
    }

    @Sentence("1 .. a NUMBER of more digits (at its first byte)")
    private static void promise3_fault1_aNumberOfMoreDigits() {
        Trial.fault("1000000", 1, 0);
        Trial.fault("3/2 2000000", 1, 4);
        Trial.fault("3/1000000 2", 1, 2);
        Trial.fault("0000002", 1, 0);
        Trial.fault("0000000", 1, 0);
        Trial.fault("2 4294967298", 1, 2);
        Trial.fault("18446744073709551618", 1, 0);
        Trial.fault("2".repeat(300), 1, 0);
        Trial.fault("2 " + "1".repeat(298), 1, 2);
        Trial.fault(behindBlanks("0000002"), 1, 293);
    }

    @Sentence("1 a byte that begins none")
    private static void promise3_fault1_aByteThatBeginsNone() {
        Trial.CHECK.due("bytes that begin no TOKEN", NO_TOKENS.length(), 94 - 12);
        for (String before : new String[] {"", "3", "3/", "3/2", "3 ", "3/ ", "3/2\n", "#?\n", "100000"}) {
            for (int at = 0; at < NO_TOKENS.length(); at++) {
                Trial.fault(before + NO_TOKENS.charAt(at) + "2", 1, before.length());
            }
        }
        Trial.fault(" ".repeat(299) + "~", 1, 299);
        Trial.fault("!" + " ".repeat(299), 1, 0);
    }

    @Sentence("blanks (10, 32) stand between")
    private static void promise3_blanksStandBetween() {
        Trial.of("\n 3 \n / \n\n2\n  2 \n", 2).note(1, -1, 1).note(2, 1);
        Trial.of("1 2", 2).note(1).note(2, 1);
        Trial.of("1\n2", 2).note(1).note(2, 1);
        Trial.of("3/2\n3/ 2 3 /2 2", 4).note(1, -1, 1).note(2, -1, 1).note(3, -1, 1);
        Trial.of("1000 100 2", 3).note(1, 3, 0, 3).note(2, 2, 0, 2);
    }

    @Sentence("comments: # and all behind it up to the next 10")
    private static void promise3_commentsUpToTheNext10() {
        Trial.of("#\n3#\n/#//\n2#2 2\n2", 2).note(1, -1, 1).note(2, 1);
        Trial.of("3 # 17 0 / ## 1234567\n2", 2).note(1, 0, 1).note(2, 1);
        Trial.of("#" + NO_TOKENS + "\n2", 1).note(1, 1);
        Trial.of("1#2\n2", 2).note(1).note(2, 1);
        Trial.of("#" + "/".repeat(297) + "\n3", 1).note(1, 0, 1);
    }

    @Sentence("comments: # and all behind it up to .. the end")
    private static void promise3_commentsUpToTheEnd() {
        Trial.of("2#", 1).note(1, 1);
        Trial.of("2#" + NO_TOKENS, 1).note(1, 1);
        Trial.of("12#2", 1).note(1, 2, 1);
        Trial.of("2 # 17 0 / ## 1234567 3", 1).note(1, 1);
        Trial.of("2#" + "x".repeat(298), 1).note(1, 1);
    }

    @Sentence("comments: # and all behind it up to the next 10 .. FAULTS")
    private static void promise3_placesBehindComments() {
        Trial.fault("2 #\n?", 1, 4);
        Trial.fault("2#\n/ #\n/", 2, 7);
        Trial.fault("#\n\n#\n17#", 3, 5);
        Trial.fault(PITCHES_24 + "#3\n2#", 4, 51);
        Trial.fault("#2\n14#2", 5, 3);
    }

    @Sentence("A TEXT is PITCHES, one at least .. 2 a TOKEN, or the end, that can't stand there .. the end: the TEXT's length")
    private static void promise3_fault2_noPitchAtAll() {
        Trial.fault("", 2, 0);
        Trial.fault(" ", 2, 1);
        Trial.fault("\n\n", 2, 2);
        Trial.fault("#", 2, 1);
        Trial.fault("# 3/2 2", 2, 7);
        Trial.fault("#2\n", 2, 3);
        Trial.fault(" ".repeat(300), 2, 300);
        Trial.fault("#" + "2".repeat(299), 2, 300);
    }

    @Sentence("2 a TOKEN, or the end, that can't stand there .. the end: the TEXT's length")
    private static void promise3_fault2_theEndBehindAStroke() {
        Trial.fault("3/", 2, 2);
        Trial.fault("3/2 2/", 2, 6);
        Trial.fault("3/ \n", 2, 4);
        Trial.fault("3/#2", 2, 4);
        Trial.fault("3/#2\n", 2, 5);
        Trial.fault(behindBlanks("2/"), 2, 300);
        Trial.fault(filled("2/"), 2, 300);
        Trial.fault(PITCHES_23 + "2/", 2, 48);
    }

    @Sentence("2 a TOKEN, .. that can't stand there (at it")
    private static void promise3_fault2_aStrokeThatCantStandThere() {
        Trial.fault("/", 2, 0);
        Trial.fault(" /2", 2, 1);
        Trial.fault("#3\n/2", 2, 3);
        Trial.fault("3//2 2", 2, 2);
        Trial.fault("3/ /2 2", 2, 3);
        Trial.fault("3/2/2", 2, 3);
        Trial.fault("3/2 / 2", 2, 4);
        Trial.fault("3/2\n5/4/", 2, 7);
        Trial.fault(" ".repeat(299) + "/", 2, 299);
        Trial.fault("1/1 ".repeat(24) + "/", 2, 96);
    }

    @Sentence("each a NUMBER, or a NUMBER, / and a NUMBER")
    private static void promise3_aNumberMayStandBehindAFraction() {
        Trial.of("3/2 5 7/4 2", 4).note(1, -1, 1).note(2, 0, 0, 1).note(3, -2, 0, 0, 1).note(4, 1);
        Trial.of("5 3/1", 2).note(1, 0, 0, 1).note(2, 0, 1);
        Trial.of(PITCHES_23 + "4/2", 24).note(24, 1);
    }

    @Sentence("3 a NUMBER that is 0, .. (at it)")
    private static void promise3_fault3_aNumberThatIs0() {
        Trial.fault("0", 3, 0);
        Trial.fault("000000", 3, 0);
        Trial.fault("00 2", 3, 0);
        Trial.fault("3/0 2", 3, 2);
        Trial.fault("0/0 2", 3, 0);
        Trial.fault("3/2 2/00", 3, 6);
        Trial.fault("0/3 2", 3, 0);
    }

    /** Every NUMBER of 6 digits at most, above the line and below it. */
    @Sentence("3 a NUMBER that .. has a prime that is none of those (at it)")
    private static void promise3_fault3_everyNumber() {
        int[] primes = {2, 3, 5, 7, 11, 13};
        TuningTables tables = new TuningTables();
        for (int number = 1; number <= 999999; number++) {
            if (number % 16 == 0) {
                tables = new TuningTables();
            }
            int[] due = new int[6];
            int rest = number;
            for (int prime = 0; prime < 6; prime++) {
                for (; rest % primes[prime] == 0; rest /= primes[prime]) {
                    due[prime]++;
                }
            }
            int before = number % 2;
            String text = before == 0 ? number + " 2" : "1/" + number + " 2";
            for (int at = 0; at < text.length(); at++) {
                tables.sign(text.charAt(at));
            }
            int read = tables.read();
            int place = tables.place();
            if (read != (rest == 1 ? 2 : -13) || place != (rest == 1 ? NONE : 2 * before)) {
                Trial.CHECK.due("read() of '" + text + "', place " + place, read, rest == 1 ? 2 : -13);
            }
            for (int prime = 0; prime < 6 && rest == 1; prime++) {
                Trial.CHECK.due("exponent in '" + text + "'", tables.exponent(1, prime), before == 0 ? due[prime] : -due[prime]);
            }
        }
    }

    @Sentence("3 a NUMBER that .. has a prime that is none of those (at it)")
    private static void promise3_fault3_evenWhereTheFractionHasItNot() {
        Trial.fault("17/17 2", 3, 0);
        Trial.fault("1/34 2", 3, 2);
        Trial.fault("3/2 38/ 19 2", 3, 4);
        Trial.fault("2 34/17", 3, 2);
        Trial.fault(PITCHES_23 + "17", 3, 46);
        Trial.fault(PITCHES_23 + "1/17", 3, 48);
    }

    @Sentence("4 a PITCH that would be the 25th (at its first TOKEN")
    private static void promise3_fault4_aPitchThatWouldBeThe25th() {
        Trial.of(PITCHES_23 + "2", 24).steps(24);
        Trial.of("1/1 ".repeat(23) + "2/1", 24).steps(24);
        Trial.fault(PITCHES_24 + "2", 4, 48);
        Trial.fault(PITCHES_24 + "4/2", 4, 48);
        Trial.fault("1/1 ".repeat(24) + "2", 4, 96);
        Trial.fault(PITCHES_24 + "\n #2\n 2 2", 4, 54);
        Trial.fault("1 ".repeat(100) + "2", 4, 48);
        Trial.fault("1/1 ".repeat(23) + "1/2 2", 4, 96);
    }

    @Sentence("4 a PITCH that would be the 25th (.. ahead of 3)")
    private static void promise3_fault4_aheadOf3() {
        Trial.fault(PITCHES_24 + "17", 4, 48);
        Trial.fault(PITCHES_24 + "0", 4, 48);
        Trial.fault(PITCHES_24 + "2/17", 4, 48);
        Trial.fault(PITCHES_24 + "0/0", 4, 48);
        Trial.fault("1/1 ".repeat(24) + "999999", 4, 96);
    }

    @Sentence("FAULTS, the first one: as TOKENS are read: 1 .. 2 .. 4")
    private static void promise3_fault1And2AndNoFaultBehind24Pitches() {
        Trial.fault(PITCHES_24 + "?", 1, 48);
        // too many digits are no NUMBER, so that no PITCH begins there
        Trial.fault(PITCHES_24 + "1234567", 1, 48);
        Trial.fault(PITCHES_24 + "/?", 1, 49);
        Trial.fault(PITCHES_24 + "//", 2, 49);
        Trial.fault(PITCHES_24 + "/1/", 2, 50);
        Trial.fault(PITCHES_24 + "/17", 3, 49);
        Trial.of(PITCHES_23 + "2 /1 ", 24).note(24, 1);
        Trial.fault(PITCHES_24 + "2?", 4, 48);
        Trial.fault(PITCHES_24 + "2/", 4, 48);
        Trial.fault(PITCHES_24 + "2//", 4, 48);
    }

    @Sentence("5 the PERIOD is no whole number from 2 to 13")
    private static void promise3_fault5_wholeNumbersFrom2To13() {
        for (int period = 2; period <= 13; period++) {
            Trial.of("" + period, 1);
            Trial.of("7 " + period, 2);
        }
        for (int number : new int[] {1, 14, 15, 16, 18, 20, 21, 22, 24, 25, 26, 27, 28, 30, 524288, 998250}) {
            Trial.fault("" + number, 5, 0);
            Trial.fault("7 " + number, 5, 2);
        }
        Trial.fault("1/2", 5, 0);
        Trial.fault("1/13", 5, 0);
        Trial.fault("13/12", 5, 0);
        Trial.fault("27/2", 5, 0);
        Trial.fault("25/2", 5, 0);
        Trial.fault("1/524288", 5, 0);
    }

    @Sentence("5 the PERIOD is no whole number .., when its fraction is in least terms")
    private static void promise3_fault5_inLeastTerms() {
        int[] numbers = {1, 2, 3, 4, 5, 6, 7, 8, 9, 10, 11, 12, 13, 14, 15, 16, 18, 20, 21, 22, 24, 25, 26, 28, 39, 91, 154, 156, 168, 182, 990000};
        for (int above : numbers) {
            for (int below : numbers) {
                boolean period = above % below == 0 && above / below >= 2 && above / below <= 13;
                if (period) {
                    Trial.of(above + "/" + below, 1);
                } else {
                    Trial.fault(above + "/" + below, 5, 0);
                }
            }
        }
        Trial.of("26/2", 1).note(1, 0, 0, 0, 0, 0, 1);
        Trial.of("792000/66000", 1).note(1, 2, 1);
    }

    @Sentence("behind all that: 5 .. (at its first TOKEN)")
    private static void promise3_fault5_atItsFirstToken() {
        Trial.fault("3/2 14 ", 5, 4);
        Trial.fault("2 # x\n 28 / 2 # y", 5, 7);
        Trial.fault("2 2/ 3", 5, 2);
        Trial.fault(PITCHES_24, 5, 46);
        Trial.fault(behindBlanks("14/1"), 5, 296);
        Trial.fault(behindBlanks("1"), 5, 299);
    }

    @Sentence("FAULTS, the first one: .. behind all that: 5")
    private static void promise3_fault5_behindAllOthers() {
        Trial.fault("14 ?", 1, 3);
        Trial.fault("14 1234567", 1, 3);
        Trial.fault("14/", 2, 3);
        Trial.fault("14/1/", 2, 4);
        Trial.fault("14 17", 3, 3);
        Trial.fault("14/0", 3, 3);
        Trial.fault("14 ".repeat(25), 4, 72);
        Trial.of("14 2", 2);
        Trial.of("1/14 1 2", 3);
    }

    @Sentence("FAULTS, the first one: as TOKENS are read")
    private static void promise3_theFirstFaultAsTokensAreRead() {
        String[] one = {"?", "1234567"};
        String[] two = {"1//", "1/1/"};
        String[] three = {"0", "17", "1/0", "1/17"};
        int[] oneAt = {0, 0};
        int[] twoAt = {2, 3};
        int[] threeAt = {0, 0, 2, 2};
        String[][] all = {one, two, three};
        int[][] places = {oneAt, twoAt, threeAt};
        for (int first = 0; first < 3; first++) {
            for (int i = 0; i < all[first].length; i++) {
                for (String[] behind : all) {
                    for (String later : behind) {
                        Trial.fault("5/4 " + all[first][i] + " " + later, first + 1, 4 + places[first][i]);
                    }
                }
            }
        }
        Trial.fault("17//", 3, 0);
        Trial.fault("17/", 3, 0);
        Trial.fault("17?", 3, 0);
        Trial.fault("2?17", 1, 1);
        Trial.fault("/17", 2, 0);
    }

    @Sentence("-10 less its FAULT (the SCALE stays)")
    private static void promise3_theScaleStaysBehindEachFault() {
        for (int fault = 1; fault <= 5; fault++) {
            String text = fault == 4 ? "3 ".repeat(25) : "7/4 11/8 4/3 3 " + FAULTY[fault - 1];
            Trial scale = Trial.of("5/4 7/3 1/3 5", 4).place(NONE);
            List<Integer> before = scale.seen();
            scale.spell(text).read(-10 - fault).steps(4).note(1, -2, 0, 1).note(3, 0, -1).note(4, 0, 0, 1);
            before.set(1, fault == 4 ? 48 : 15 + new int[] {0, 2, 2, 0, 2}[fault - 1]);
            scale.stillSeen(before);
        }
        new Trial().chain(7, 7, -1, 1).spell("3/2 3 14").read(-15).steps(7).note(1, -3, 2).note(7, 1).gaps(2);
    }

    @Sentence("-10 less its FAULT (the SCALE stays)")
    private static void promise3_aFaultLeavesNothingForTheNextText() {
        new Trial().spell("3/2 5/").read(-12).spell("7/4 2").read(2).note(1, -2, 0, 0, 1).note(2, 1);
        new Trial().spell(PITCHES_24 + "5").read(-14).spell("9 2").read(2).note(1, 0, 2).note(2, 1);
        new Trial().spell("27/17 3").read(-13).spell("/2").read(-12).place(0).spell("5 2").read(2).note(1, 0, 0, 1);
        new Trial().spell("#").read(-12).spell("3").read(1).note(1, 0, 1);
        new Trial().spell("3/2").read(-15).spell("/2").read(-12).place(0);
    }

    // ---- Promise 4: place

    @Sentence("The place of the FAULT of the latest read(); NONE.")
    private static void promise4_noneWithoutAnyRead() {
        new Trial().place(NONE).sign('?', 1).place(NONE).chain(2, 2, 0, 1).place(NONE);
    }

    @Sentence("The place of the FAULT of the latest read(); NONE.")
    private static void promise4_noneBehindAReadWithoutFault() {
        new Trial().spell("3/2 ?").read(-11).place(4).spell("3/2 2").read(2).place(NONE);
        Trial.of("2", 1).place(NONE);
    }

    @Sentence("The place of the FAULT of the latest read()")
    private static void promise4_theLatestReadCounts() {
        new Trial().spell("3/2 ?").read(-11).place(4).spell("17").read(-13).place(0).spell("  1").read(-15).place(2)
            .read(-12).place(0);
    }

    @Sentence("The place of the FAULT of the latest read()")
    private static void promise4_itStaysUntilTheNextRead() {
        Trial trial = new Trial().spell("3/2 ?").read(-11).place(4).place(4).chain(5, 5, 0, 1).place(4).spell("2 2").place(4);
        trial.chain(OUTSIDE, 0).place(4).sign(127, OUTSIDE).place(4).exponent(9, 9, UNKNOWN).place(4).read(2).place(NONE);
    }

    @Sentence("300 at most .. the end: the TEXT's length .. The place of the FAULT")
    private static void promise4_from0To300() {
        new Trial().spell("?").read(-11).place(0);
        new Trial().spell(" ".repeat(299) + "?").read(-11).place(299);
        new Trial().spell(behindBlanks("2/")).read(-12).place(300);
    }
}
