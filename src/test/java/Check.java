/** Counts the answers that are not as due; every test of the project ends with one of these. */
final class Check {
    private final String promise;
    private int asked;
    private int wrong;

    Check(String promise) {
        this.promise = promise;
    }

    void due(String call, long got, long want) {
        asked++;
        if (got != want) {
            wrong++;
            System.out.println(promise + ": " + call + " answered " + got + ", due is " + want);
        }
    }

    void due(String call, boolean got, boolean want) {
        due(call, got ? 1 : 0, want ? 1 : 0);
    }

    int wrong() {
        return wrong;
    }

    /** Ends the program with 1 if an answer of any of these was wrong, or if one asked nothing. */
    static void end(Check... checks) {
        int wrong = 0;
        int asked = 0;
        for (Check check : checks) {
            wrong += check.asked == 0 ? 1 : check.wrong;
            asked += check.asked;
        }
        System.out.println(wrong == 0 ? asked + " answers are as due" : wrong + " answers are not as due");
        if (wrong != 0) {
            System.exit(1);
        }
    }
}
