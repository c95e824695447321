/** Counts what was asked of the class, and prints each answer that is not the one that is due. */
final class Tally {
    private static final int MOST_PRINTED = 60;

    private int right;
    private int wrong;
    private String group = "";

    void begin(String name) {
        group = name;
    }

    void due(String call, long want, long got) {
        if (got == want) {
            right++;
            return;
        }
        wrong++;
        if (wrong <= MOST_PRINTED) {
            System.out.println(group + ": " + call + " answered " + got + ", due is " + want);
        }
    }

    void holds(String what, boolean is) {
        due(what, 1, is ? 1 : 0);
    }

    int wrong() {
        return wrong;
    }

    String counts() {
        return right + " answers as due, " + wrong + " not";
    }
}
