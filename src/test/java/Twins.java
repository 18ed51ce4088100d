import java.util.NoSuchElementException;

/** Two councils brought to the same point: what a call to one of them changed is seen beside the other. */
final class Twins {
    /** What brings a council somewhere. */
    interface Act {
        void on(HatAtCouncil x);
    }

    /** A call whose answer counts; a boolean counts 1 or 0. */
    interface Call {
        long on(HatAtCouncil x);
    }

    private final Check check;

    Twins(Check check) {
        this.check = check;
    }

    /** A council in which everything that a call could change by mistake stands at a number of its own. */
    static void busy(HatAtCouncil x) {
        Check.text(x, "3ab;2ac;9bcd");
        x.council();
        Check.text(x, "23111111");
        x.lengths();
        Check.rule(x, "w*2+b-m");
        x.heard(0, 1);
        x.heard(1, 2);
        x.midnight(5);
        x.talk(0, 2, 1);
        x.keep(1);
        x.turn(3);
        x.midnight(30);
        x.keep(2);
        x.talk(1, 0, 2);
        x.talk(2, 0, 3);
        x.vote();
        Check.text(x, "91827364");
    }

    static void busyWith(HatAtCouncil x, String text) {
        busy(x);
        Check.text(x, text);
    }

    /** A refused call answers as due and changes nothing. */
    void refused(String call, Act before, Call asked, long due) {
        HatAtCouncil x = new HatAtCouncil();
        before.on(x);
        check.due(call, asked.on(x), due);
        check.due(call + " changes nothing", seen(x, true), untouched(before, false, true));
    }

    /** A refused call that reads THE TEXT empties it and changes nothing else. */
    void refusedText(String call, Act before, Call asked, long due) {
        HatAtCouncil x = new HatAtCouncil();
        before.on(x);
        check.due(call, asked.on(x), due);
        check.due(call + " changes nothing but the text", seen(x, true), untouched(before, true, true));
    }

    /** A question answers as due and changes nothing but the ROW. */
    void question(String call, Act before, Call asked, long due) {
        HatAtCouncil x = new HatAtCouncil();
        before.on(x);
        check.due(call, asked.on(x), due);
        check.due(call + " changes nothing but the row", seen(x, false), untouched(before, false, false));
    }

    /** A call that throws what it must and changes nothing. */
    void thrown(String call, Act before, Call asked) {
        refused(call + " throws", before, x -> throwsNoSuch(asked, x) ? 1 : 0, 1);
    }

    private static boolean throwsNoSuch(Call asked, HatAtCouncil x) {
        try {
            asked.on(x);
            return false;
        } catch (NoSuchElementException e) {
            return true;
        }
    }

    private static String untouched(Act before, boolean emptied, boolean withRow) {
        HatAtCouncil y = new HatAtCouncil();
        before.on(y);
        if (emptied) {
            y.end(0);
        }
        return seen(y, withRow);
    }

    /** All that can be seen of a council, which is used up by it: with setting up, less than 512 calls. */
    private static String seen(HatAtCouncil x, boolean withRow) {
        StringBuilder s = new StringBuilder();
        for (int what = 0; what <= 11; what++) {
            if (what != 10 || withRow) {
                s.append(" count").append(what).append('=').append(x.count(what));
            }
        }
        int numbers = withRow ? x.count(10) : 0;
        for (int i = 0; i < numbers; i++) {
            s.append(" row").append(i).append('=').append(x.row(i));
        }
        int men = x.count(0);
        for (int man = 0; man < men; man++) {
            s.append(" breath=").append(x.man(man, 0)).append(" wants=").append(x.man(man, 1));
        }
        lengths(x, s);
        present(x, men, s);
        s.append(" text=").append(x.lengths());
        lengths(x, s);
        for (int left = x.undo(); left >= 0; left = x.undo()) {
            s.append(" undone=").append(left);
            present(x, men, s);
        }
        for (int i = 0; i < 3; i++) {
            boolean again = x.again(i);
            s.append(" again").append(i).append('=').append(again);
            if (again) {
                present(x, men, s);
            }
        }
        return s.toString();
    }

    private static void lengths(HatAtCouncil x, StringBuilder s) {
        s.append(" lengths=");
        for (int thing = 0; thing < 8; thing++) {
            s.append(x.thing(thing, 0));
        }
    }

    /** What undo() and again() bring back. */
    private static void present(HatAtCouncil x, int men, StringBuilder s) {
        s.append(" now=");
        for (int what = 1; what <= 7; what++) {
            s.append(x.count(what)).append(',');
        }
        for (int man = 0; man < men; man++) {
            s.append(" man").append(man).append('=');
            for (int what = 2; what <= 6; what++) {
                s.append(x.man(man, what)).append(',');
            }
        }
        s.append(" fits=").append(x.fits());
        if (x.count(9) < 15) {
            cutsIn(x, men, s);
        }
    }

    /** What the latest talk was shows by who can cut in on it. */
    private static void cutsIn(HatAtCouncil x, int men, StringBuilder s) {
        for (int man = 0; man < men; man++) {
            int thing = Integer.numberOfTrailingZeros(x.man(man, 5) | 256);
            int minute = x.talk(man, 4, thing);
            s.append(" cut=").append(minute);
            if (minute >= 0) {
                s.append(" hat=").append(x.count(1)).append(" said=").append(x.count(5));
                x.undo();
            }
        }
    }
}
