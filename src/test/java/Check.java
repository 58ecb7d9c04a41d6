/** Counts answers that are not the ones that are due; shared by the tests. */
final class Check {
    private final String name;
    private int looked;
    private int wrong;

    Check(String name) {
        this.name = name;
    }

    void due(String call, long got, long want) {
        looked++;
        if (got != want) {
            wrong++;
            if (wrong <= 40) {
                System.out.println(name + ": " + call + " answered " + got + ", due is " + want);
            }
        }
    }

    void due(String call, boolean got, boolean want) {
        due(call, got ? 1 : 0, want ? 1 : 0);
    }

    void due(String call, String got, String want) {
        looked++;
        if (!got.equals(want)) {
            wrong++;
            if (wrong <= 40) {
                System.out.println(name + ": " + call + "\n  answered " + got + "\n  due is   " + want);
            }
        }
    }

    boolean failed() {
        return wrong > 0;
    }

    void finish() {
        System.out.println(name + ": " + looked + " answers, " + wrong + " not as due");
        if (wrong > 0 || looked == 0) {
            System.exit(1);
        }
    }

    /** Puts a text (characters 0 to 255) behind what is on the tape; false if it does not fit. */
    static boolean feed(SortWorks works, String text) {
        int before = works.about(3);
        for (int at = 0; at < text.length(); at += 20) {
            if (works.feed(number(text, at), number(text, at + 4), number(text, at + 8),
                    number(text, at + 12), number(text, at + 16)) == SortWorks.NONE) {
                return false;
            }
        }
        works.end(before + text.length());
        return true;
    }

    static int number(String text, int at) {
        int number = 0;
        for (int i = at; i < at + 4; i++) {
            number = number << 8 | (i < text.length() ? text.charAt(i) & 255 : 32);
        }
        return number;
    }

    /** plan() of a text on an empty tape. */
    static int plan(SortWorks works, String text) {
        works.end(0);
        feed(works, text);
        return works.plan();
    }
}
