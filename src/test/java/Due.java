/** Counts the answers that are not the ones that are due, and prints them. */
final class Due {
    private static final int MOST_PRINTED = 50;

    private int wrong = 0;
    private int asked = 0;
    private String sentence = "";

    /** Names the sentence that the answers from now on stand for. */
    void under(String text) {
        sentence = text + ": ";
    }

    void same(String call, long got, long want) {
        asked++;
        if (got != want) {
            wrong++;
            if (wrong > MOST_PRINTED) {
                return;
            }
            System.out.println(sentence + call + " answered " + got + ", due is " + want);
        }
    }

    void holds(String what, boolean got) {
        same(what, got ? 1 : 0, 1);
    }

    int wrong() {
        return wrong;
    }

    int asked() {
        return asked;
    }

    /** Ends the program, with exit code 1 if an answer was wrong. */
    void end() {
        if (asked == 0) {
            System.out.println("nothing was asked");
        }
        System.out.println(wrong == 0 ? asked + " answers are as due" : wrong + " of " + asked + " answers are not as due");
        System.exit(wrong == 0 && asked > 0 ? 0 : 1);
    }
}
