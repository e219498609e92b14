/** Counts and prints the answers that are not the ones that are due. */
final class Due {
    private int wrong = 0;
    private int asked = 0;

    void is(String call, long got, long want) {
        asked++;
        if (got != want) {
            wrong++;
            System.out.println(call + " answered " + got + ", due is " + want);
        }
    }

    void holds(String claim, boolean is) {
        asked++;
        if (!is) {
            wrong++;
            System.out.println("not so: " + claim);
        }
    }

    boolean hasWrong() {
        return wrong > 0;
    }

    void end() {
        System.out.println(asked + " answers, " + wrong + " not as due");
        if (wrong > 0) {
            System.exit(1);
        }
    }
}
