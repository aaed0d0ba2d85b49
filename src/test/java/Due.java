/** Counts answers that are not the ones that are due; each test ends with end(). */
final class Due {
    private int wrong;
    private int asked;

    void is(String call, long got, long want) {
        asked++;
        if (got != want) {
            wrong++;
            if (wrong <= 50) {
                System.out.println(call + " answered " + got + ", due is " + want);
            }
        }
    }

    void same(String what, String got, String want) {
        holds(what + " is " + got + ", due is " + want, got.equals(want));
    }

    void holds(String what, boolean true_) {
        is(what, true_ ? 1 : 0, 1);
    }

    void end() {
        System.out.println(wrong == 0 ? asked + " answers are as due" : wrong + " of " + asked + " are not as due");
        if (wrong != 0) {
            System.exit(1);
        }
    }
}
