/** Counts and prints answers that are not as due. */
final class Check {
    private int wrong = 0;
    private int asked = 0;
    private String about = "";

    void about(String what) {
        about = what;
    }

    void due(String call, long want, long got) {
        asked++;
        if (want != got) {
            wrong++;
            if (wrong <= 50) {
                System.out.println(about + ": " + call + " answered " + got + ", due is " + want);
            }
        }
    }

    int wrong() {
        return wrong;
    }

    /** Ends the program: with 1 if an answer was wrong, or too few were asked. */
    void end(int least) {
        System.out.println(asked + " answers, " + wrong + " wrong");
        if (wrong != 0 || asked < least) {
            System.exit(1);
        }
    }
}
