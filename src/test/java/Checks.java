/** Counts and prints answers that are not as due. */
final class Checks {
    private String head = "";
    private int wrong = 0;
    private int asked = 0;

    /** What the checks from here on are about. */
    void about(String text) {
        head = text;
    }

    void due(String call, long want, long got) {
        asked++;
        if (got != want) {
            wrong++;
            System.out.println(head + ": " + call + " answered " + got + ", due is " + want);
        }
    }

    int wrong() {
        return wrong;
    }

    void end() {
        System.out.println(asked + " answers, " + wrong + " not as due");
        if (wrong != 0) {
            System.exit(1);
        }
    }
}
