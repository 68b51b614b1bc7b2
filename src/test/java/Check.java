/** Compares answers with those that are due; a helper of the tests. */
final class Check {
    private final String test;
    private int asked = 0;
    private int wrong = 0;
    private String place = "";

    Check(String test) {
        this.test = test;
    }

    /** Names the part of the test that follows. */
    void at(String place) {
        this.place = place;
    }

    void due(String call, long got, long want) {
        asked++;
        if (got != want) {
            wrong++;
            System.out.println(place + ": " + call + " answered " + got + ", due is " + want);
        }
    }

    int wrong() {
        return wrong;
    }

    void end() {
        System.out.println(test + ": " + asked + " answers, " + wrong + " wrong");
        if (wrong != 0 || asked == 0) {
            System.exit(1);
        }
    }
}
