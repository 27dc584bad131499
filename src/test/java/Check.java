/** Counts the calls whose answer is not the one that is due, and prints them. */
final class Check {
    private int calls = 0;
    private int wrong = 0;

    void due(String call, long got, long want) {
        calls++;
        if (got != want) {
            wrong++;
            System.out.println(call + " answered " + got + ", due is " + want);
        }
    }

    void holds(String claim, boolean held) {
        calls++;
        if (!held) {
            wrong++;
            System.out.println("does not hold: " + claim);
        }
    }

    int wrongOnes() {
        return wrong;
    }

    boolean isClean() {
        return wrong == 0;
    }

    void end() {
        System.out.println(calls + " checks, " + wrong + " wrong");
        if (wrong != 0) {
            System.exit(1);
        }
    }
}
