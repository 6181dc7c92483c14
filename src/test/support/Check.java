/** What the tests share: counts the answers that are not as due, and feeds texts. */
final class Check {
    private int wrong;

    void due(String call, long got, long want) {
        if (got != want) {
            wrong++;
            System.out.println(call + " answered " + got + ", due is " + want);
        }
    }

    void due(String call, boolean got, boolean want) {
        due(call, got ? 1 : 0, want ? 1 : 0);
    }

    /** A call that gives a number and has STATUS 0. */
    void fine(FootQuarrel q, String call, long got, long want) {
        due(call, got, want);
        due("status() behind " + call, q.status(), 0);
    }

    void granted(FootQuarrel q, String call, boolean got) {
        due(call, got, true);
        due("status() behind " + call, q.status(), 0);
    }

    void refused(FootQuarrel q, String call, long got, int status) {
        due(call, got, FootQuarrel.NONE);
        due("status() behind " + call, q.status(), status);
    }

    void denied(FootQuarrel q, String call, boolean got, int status) {
        due(call, got, false);
        due("status() behind " + call, q.status(), status);
    }

    void fraction(FootQuarrel q, String call, boolean got, long top, long bottom) {
        granted(q, call, got);
        due("top() behind " + call, q.top(), top);
        due("bottom() behind " + call, q.bottom(), bottom);
    }

    /** The text is refused with that FAULT at that place. */
    void streetFault(String text, int kind, int place) {
        FootQuarrel q = new FootQuarrel();
        refused(q, "street: " + text, street(q, text), 9);
        due("fault(0) of " + text, q.fault(0), kind);
        due("fault(1) of " + text, q.fault(1), place);
    }

    void yearsFault(FootQuarrel q, String text, int kind, int place) {
        refused(q, "years: " + text, years(q, text), 9);
        due("fault(0) of " + text, q.fault(0), kind);
        due("fault(1) of " + text, q.fault(1), place);
    }

    void finish() {
        System.out.println(wrong == 0 ? "all answers are as due" : wrong + " answers are not as due");
        if (wrong != 0) {
            System.exit(1);
        }
    }

    /** Feeds a text and as many 0s as it takes: how many bytes the text has. */
    static int feed(FootQuarrel q, String text) {
        for (int at = 0; at < text.length(); at += 20) {
            q.feed(four(text, at), four(text, at + 4), four(text, at + 8), four(text, at + 12), four(text, at + 16));
        }
        return text.length();
    }

    static int street(FootQuarrel q, String text) {
        return q.street(feed(q, text));
    }

    static int years(FootQuarrel q, String text) {
        return q.years(feed(q, text));
    }

    static FootQuarrel withStreet(String text) {
        FootQuarrel q = new FootQuarrel();
        if (street(q, text) == FootQuarrel.NONE) {
            throw new IllegalStateException("FAULT " + q.fault(0) + " at " + q.fault(1) + " in " + text);
        }
        return q;
    }

    static String times(String text, int many) {
        return text.repeat(many);
    }

    private static int four(String text, int at) {
        int number = 0;
        for (int i = at; i < at + 4; i++) {
            number = number << 8 | (i < text.length() ? text.charAt(i) : 0);
        }
        return number;
    }
}
