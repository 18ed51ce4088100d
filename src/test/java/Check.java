import java.util.NoSuchElementException;

/** Counts answers that are not as due, and ends a test by them. */
final class Check {
    /** A call that may throw NoSuchElementException. */
    interface Call {
        long answer();
    }

    private int wrong = 0;

    static HatAtCouncil council(String lines) {
        HatAtCouncil x = new HatAtCouncil();
        text(x, lines);
        x.council();
        return x;
    }

    /** The council of three that many tests begin with: a lasts 2 minutes, b 3, the others 1. */
    static HatAtCouncil three() {
        HatAtCouncil x = council("3ab;2ac;9bc");
        text(x, "23111111");
        x.lengths();
        return x;
    }

    static void text(HatAtCouncil x, String s) {
        x.end(0);
        for (int i = 0; i < s.length(); i += 4) {
            int v = 0;
            for (int j = i; j < i + 4; j++) {
                v = v << 8 | (j < s.length() ? s.charAt(j) : 0);
            }
            x.sign(v);
        }
        x.end(s.length());
    }

    static int lengths(HatAtCouncil x, String s) {
        text(x, s);
        return x.lengths();
    }

    /** How many councillors come by some lines, or what council() answers else. */
    static int come(HatAtCouncil x, String s) {
        text(x, s);
        return x.council();
    }

    static int law(HatAtCouncil x, String s) {
        text(x, s);
        return x.law();
    }

    static int rule(HatAtCouncil x, String s) {
        text(x, s);
        return x.rule();
    }

    static int evening(HatAtCouncil x, String s) {
        text(x, s);
        return x.evening();
    }

    static String times(String s, int n) {
        return s.repeat(n);
    }

    void due(String call, long got, long want) {
        if (got != want) {
            wrong++;
            System.out.println(call + " answered " + got + ", due is " + want);
        }
    }

    void due(String call, boolean got, boolean want) {
        due(call, got ? 1 : 0, want ? 1 : 0);
    }

    void due(String call, String got, String want) {
        if (!got.equals(want)) {
            wrong++;
            System.out.println(call + ": seen is" + got + "\n  due is" + want);
        }
    }

    void row(String call, HatAtCouncil x, long... want) {
        due(call + ": numbers of the row", x.count(10), want.length);
        for (int i = 0; i < want.length && i < x.count(10); i++) {
            due(call + ": row " + i, x.row(i), want[i]);
        }
    }

    void thrown(String call, Call c) {
        boolean thrown = false;
        try {
            c.answer();
        } catch (NoSuchElementException e) {
            thrown = true;
        }
        due(call + " throws", thrown, true);
    }

    void end() {
        System.out.println(wrong == 0 ? "all answers are as due" : wrong + " answers are not as due");
        if (wrong != 0) {
            System.exit(1);
        }
    }
}
