/** Promises 33 to 43: who it was, laws, rests, years, what is kept, counts and the row. */
public final class WhoTest {
    private static final Check check = new Check();

    public static void main(String[] args) {
        heard();
        heardWrong();
        fits();
        ask();
        law();
        rests();
        years();
        yearsWithoutCouncillors();
        kept();
        keptTillCouncillorsCome();
        counts();
        rows();
        check.end();
    }

    private static void heard() {
        HatAtCouncil x = Check.three();
        for (int i = 1; i <= 12; i++) {
            check.due("heard " + i, x.heard(1, 1), i);
        }
        check.due("a thirteenth", x.heard(1, 1), -1);
        check.due("twelve", x.count(8), 12);
        check.due("forgotten", x.forget(), 12);
        check.due("nothing to forget", x.forget(), 0);
        check.due("heard anew", x.heard(4, 0), 1);
        Check.text(x, "1");
        x.council();
        x.keep(0);
        x.again(0);
        check.due("what was heard stays", x.count(8), 1);
    }

    private static void heardWrong() {
        HatAtCouncil x = Check.three();
        int[][] others = {{-1, 0}, {5, 0}, {0, -1}, {0, 8}, {1, 0}, {1, 10}, {2, -1}, {2, 1000}, {3, -1}, {3, 2},
            {4, -1}, {4, 1000}, {0, 32}, {Integer.MIN_VALUE, 0}};
        for (int[] o : others) {
            check.due("heard " + o[0] + " " + o[1], x.heard(o[0], o[1]), -1);
        }
        check.due("none of it", x.count(8), 0);
        int[][] edges = {{0, 0}, {0, 7}, {1, 1}, {1, 9}, {2, 0}, {2, 999}, {3, 0}, {3, 1}, {4, 0}, {4, 999}};
        for (int i = 0; i < edges.length; i++) {
            check.due("heard " + edges[i][0] + " " + edges[i][1], x.heard(edges[i][0], edges[i][1]), i + 1);
        }
    }

    private static void fitsOne(HatAtCouncil x, int what, int v, int due) {
        x.forget();
        x.heard(what, v);
        check.due("fits " + what + " " + v, x.fits(), due);
        check.row("fits " + what + " " + v, x, Integer.bitCount(due));
    }

    private static void fits() {
        HatAtCouncil x = Check.three();
        check.due("nothing heard", x.fits(), 7);
        check.row("nothing heard", x, 3);
        x.midnight(2);
        x.talk(0, 1, 0);
        x.talk(1, 2, 2);
        // spoke 1, 1, 0; had it 0 and 2; 2 has paid
        fitsOne(x, 0, 0, 3);
        fitsOne(x, 0, 7, 0);
        fitsOne(x, 1, 3, 5);
        fitsOne(x, 1, 4, 4);
        fitsOne(x, 2, 0, 4);
        fitsOne(x, 2, 1, 7);
        fitsOne(x, 3, 1, 5);
        fitsOne(x, 3, 0, 2);
        fitsOne(x, 4, 1, 4);
        fitsOne(x, 4, 0, 3);
        fitsOne(x, 0, 1, 5);
        x.heard(2, 0);
        check.due("all that was heard", x.fits(), 4);
        x.undo();
        x.undo();
        check.due("by how it stands now", x.fits(), 5);
    }

    private static void ask() {
        HatAtCouncil x = Check.three();
        check.due("each of a, b, c leaves two: the first", x.ask(), 0);
        check.row("each of a, b, c leaves two", x, 2);
        x.heard(0, 1);
        check.due("0 or 2", x.ask(), 0);
        check.row("0 or 2", x, 1);
        x.heard(1, 9);
        check.due("2 alone: nothing helps", x.ask(), 0);
        check.row("2 alone", x, 1);
        x.heard(2, 999);
        x.heard(0, 0);
        check.due("none fits", x.ask(), -2);
        check.row("the row stays", x, 1);
        HatAtCouncil y = Check.council("1ah;1ah;1ag;1a");
        check.due("halves", y.ask(), 7);
        check.row("halves", y, 2);
        HatAtCouncil alike = Check.council("1;1;1;1;1;1;1;1");
        check.due("all alike", alike.ask(), 0);
        check.row("all alike", alike, 8);
        check.due("nobody there", new HatAtCouncil().ask(), -2);
    }

    private static void law() {
        HatAtCouncil x = Check.three();
        check.due("law", Check.law(x, "-b"), 1);
        check.row("law", x, -3, -2, -9);
        check.due("the rule stays", x.man(0, 6), 9);
        check.due("law empties the text", x.count(11), 0);
        x.talk(1, 1, 0);
        check.due("who wears the hat does not speak", Check.law(x, "-b"), 0);
        check.row("but is told", x, -3, -2, -9);
        check.due("of equal ones the first", Check.law(x, "1=1"), 0);
        Check.rule(x, "t");
        check.due("an empty law is the usual rule", Check.law(x, ""), 2);
        check.row("an empty law", x, 9, 1, 15);
        check.due("bad", Check.law(x, "w+"), -10002);
        check.row("the row stays", x, 9, 1, 15);
        check.due("the rule stays", x.man(1, 6), 1);
        HatAtCouncil y = Check.council("1;2");
        check.due("a silence", Check.law(y, "b*b"), -2);
        check.row("a silence, all the same", y, 1, 4);
    }

    private static void rests() {
        HatAtCouncil x = new HatAtCouncil();
        check.due("nothing gained", x.rests(0), 1);
        check.row("nothing gained", x, 0, 0);
        check.due("one each", x.rests(1), 14);
        check.row("one each", x, 0, 0);
        for (int v = 2; v <= 9; v++) {
            check.due("rests " + v, x.rests(v), 10);
            check.row("rests " + v, x, 0, 9);
        }
        check.due("rests -1", x.rests(-1), -1);
        check.due("rests 10", x.rests(10), -1);
        check.row("refused", x, 0, 9);
    }

    private static void years() {
        HatAtCouncil x = Check.three();
        check.due("0 sneezes", x.years(1, 1), 0);
        check.row("0 sneezes", x, 0, 1);
        check.due("a turn: 2 says b", x.years(1, 2), 0);
        check.row("a turn: 2 says b", x, 2, 4);
        check.due("0 asks 1", x.years(1, 3), 0);
        check.row("0 asks 1", x, 1, 5);
        check.due("2 sneezes", x.years(1, 4), 0);
        check.row("2 sneezes", x, 2, 6);
        check.due("nothing changes", x.count(6) + x.count(2) + x.count(9), 0);
        x.midnight(4);
        check.due("it strikes", x.years(1, 2), 1);
        check.row("it strikes", x, -2, 0);
        x.midnight(20);
        x.talk(0, 1, 0);
        check.due("0 can't sneeze", x.years(1, 1), 0);
        check.row("0 can't sneeze", x, 0, 1);
        check.due("but it was drawn", x.years(1, 2), 0);
        check.row("but it was drawn", x, 2, 4);
        check.due("years 0", x.years(1, 0), -1);
        check.due("years 61", x.years(1, 61), -1);
        check.row("refused", x, 2, 4);
        check.due("years 60", x.years(1, 60) >= 0, true);
        x.turn(60);
        check.due("only those that strike in these", x.years(1, 1), 0);
    }

    private static void yearsWithoutCouncillors() {
        HatAtCouncil x = new HatAtCouncil();
        check.due("two that can't be", x.years(1, 2), 0);
        check.row("two that can't be", x, -2, 0);
        check.due("then a silence", x.years(1, 3), 0);
        check.row("then a silence", x, -2, 1);
        check.due("no draws but of 4", x.years(1, 6), 0);
        check.row("no draws but of 4", x, -2, 1);
    }

    private static void kept() {
        HatAtCouncil x = Check.three();
        check.due("nothing kept", x.again(1), false);
        check.due("keep -1", x.keep(-1), false);
        check.due("keep 3", x.keep(3), false);
        x.talk(2, 0, 1);
        check.due("keep 1", x.keep(1), true);
        x.midnight(10);
        x.turn(40);
        check.due("keep 2", x.keep(2), true);
        int evening = x.count(4);
        int spoke = x.count(6);
        check.due("others are not kept", x.again(0), false);
        check.due("again -1", x.again(-1), false);
        check.due("again 3", x.again(3), false);
        check.due("again 1", x.again(1), true);
        long[] due = {3, 2, 3, 20, 0, 2, 1, 0, 0, 0};
        for (int what = 0; what < due.length; what++) {
            check.due("again: count " + what, x.count(what), due[what]);
        }
        check.due("the latest talk, too", x.talk(1, 4, 0), 4);
        check.due("again 2", x.again(2), true);
        check.due("evening", x.count(4), evening);
        check.due("spoke", x.count(6), spoke);
        check.due("again 1, once more", x.again(1), true);
        x.sheet(2, 3, 9, 0);
        x.again(2);
        check.due("breath is not kept", x.man(1, 0), 9);
        x.keep(1);
        x.talk(0, 1, 0);
        x.again(1);
        check.due("kept anew", x.count(6), spoke);
    }

    private static void keptTillCouncillorsCome() {
        HatAtCouncil x = Check.three();
        x.keep(0);
        x.keep(2);
        Check.text(x, "");
        x.council();
        Check.text(x, "x");
        x.council();
        check.due("none came", x.again(0), true);
        Check.text(x, "1");
        x.council();
        x.turn(1);
        check.due("councillors came", x.again(0), false);
        check.due("for all", x.again(2), false);
        check.due("refused forgets nothing", x.count(9), 1);
        x.keep(0);
        check.due("kept since", x.again(0), true);
    }

    private static void counts() {
        HatAtCouncil x = Check.three();
        x.talk(2, 0, 1);
        x.talk(1, 0, 0);
        x.heard(0, 0);
        x.midnight(30);
        x.rivals();
        x.sign(0);
        long[] due = {3, 1, 5, 30, 0, 3, 2, 0, 1, 3, 3, 4};
        for (int what = 0; what < due.length; what++) {
            check.due("count " + what, x.count(what), due[what]);
        }
        check.due("count -1", x.count(-1), -100);
        check.due("count 12", x.count(12), -100);
        x.midnight(6);
        x.talk(2, 1, 0);
        check.due("nobody wears it", x.count(1), -1);
        check.due("evening", x.count(4), 1);
        check.due("paid", x.count(7), 1);
    }

    private static void rows() {
        HatAtCouncil x = Check.three();
        check.thrown("no row yet", () -> x.row(0));
        x.vote();
        check.due("row 0", x.row(0), 3);
        check.due("row 1", x.row(1), 7);
        check.thrown("row 2", () -> x.row(2));
        check.thrown("row -1", () -> x.row(-1));
        check.thrown("row far off", () -> x.row(Integer.MAX_VALUE));
        x.talk(0, 1, 0);
        x.man(0, 0);
        check.due("a call that tells no row leaves it", x.row(1), 7);
        x.mute();
        check.due("a shorter row", x.count(10), 1);
        check.thrown("what was behind it", () -> x.row(1));
    }
}
