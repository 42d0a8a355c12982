/** Counts the answers that are not the ones that are due. */
final class Due {
    private int wrong = 0;
    private int looked = 0;
    private String about = "";

    void about(String text) {
        about = text;
    }

    void is(String call, long got, long want) {
        looked++;
        if (got != want) {
            wrong++;
            System.out.println(about + ": " + call + " answered " + got + ", due is " + want);
        }
    }

    /** All that can be asked for, as Make.look tells it, is as it was. */
    void same(String call, String is, String was) {
        looked++;
        if (!is.equals(was)) {
            wrong++;
            System.out.println(about + ": " + call + " changed" + was + "\n  to" + is);
        }
    }

    /** Ends the program with 1, if an answer was not the one that is due. */
    void end() {
        System.out.println(looked + " answers, " + wrong + " not as due");
        if (wrong != 0) {
            System.exit(1);
        }
    }
}
