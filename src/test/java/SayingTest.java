/** Promises 24 to 32: how all is said, shared out and handed to and fro; games; chances. */
public final class SayingTest {
    private static final Check check = new Check();

    public static void main(String[] args) {
        order();
        orderWithSneezes();
        orderBeforeMidnight();
        cover();
        shares();
        most();
        fro();
        game();
        wins();
        silent();
        lot();
        check.end();
    }

    private static void order() {
        HatAtCouncil x = Check.three();
        check.due("nothing", x.order(0, -1), 0);
        check.row("nothing", x);
        check.due("nothing, nobody wears it", x.order(0, 1), 0);
        check.due("a", x.order(1, -1), 2);
        check.row("a", x, 0, 0);
        check.due("a, not by 0", x.order(1, 0), 2);
        check.row("a, not by 0", x, 1, 0);
        check.due("all", x.order(7, -1), 6);
        check.row("all", x, 0, 0, 1, 2, 0, 1);
        check.due("all, not 0 at the end", x.order(7, 0), 6);
        check.row("all, not 0 at the end", x, 0, 0, 1, 2, 2, 1);
        check.due("d is wanted by nobody", x.order(8, -1), -2);
        check.due("other bits", x.order(256, -1), -1);
        check.due("below", x.order(-1, -1), -1);
        check.due("none such", x.order(1, 3), -1);
        check.due("none such below", x.order(1, -2), -1);
        check.row("the row stays", x, 0, 0, 1, 2, 2, 1);
        x.talk(2, 0, 1);
        check.due("said ones among them", x.order(3, -1), -1);
        check.due("nothing, but 2 wears it", x.order(0, 2), 1);
        check.row("nothing, but 2 wears it", x, 0, 8);
        check.due("nothing changed", x.count(2), 3);
    }

    private static void orderWithSneezes() {
        HatAtCouncil x = Check.council("9ab;9");
        check.due("a sneeze between", x.order(3, -1), 3);
        check.row("a sneeze between", x, 0, 0, 1, 8, 0, 1);
        check.due("and one behind", x.order(3, 0), 4);
        check.row("and one behind", x, 0, 0, 1, 8, 0, 1, 1, 8);
        x.talk(0, 1, 0);
        check.due("one ahead", x.order(2, -1), 2);
        check.row("one ahead", x, 1, 8, 0, 1);
        HatAtCouncil alone = Check.council("9ab");
        check.due("alone", alone.order(1, -1), 1);
        check.due("alone, two things", alone.order(3, -1), -2);
        check.due("alone, not at the end", alone.order(1, 0), -2);
        HatAtCouncil y = Check.council("2ab;5ab;1");
        Check.text(y, "25111111");
        y.lengths();
        // 0 says a in 2 and 1 says b in 5, or 1 says both with a sneeze between
        check.due("fewest minutes", y.order(3, -1), 7);
        check.row("fewest minutes", y, 0, 0, 1, 1);
        check.due("not 1", y.order(3, 1), 7);
        check.row("not 1", y, 1, 1, 0, 0);
        check.due("not 1, who alone can", y.order(2, 1), 6);
        check.row("not 1, who alone can", y, 1, 1, 0, 8);
    }

    private static void orderBeforeMidnight() {
        HatAtCouncil x = Check.three();
        x.midnight(6);
        check.due("at midnight", x.order(7, -1), -2);
        x.midnight(7);
        check.due("a minute earlier", x.order(7, -1), 6);
        x.talk(1, 1, 0);
        check.due("a minute has gone", x.order(7, -1), -2);
    }

    private static void cover() {
        HatAtCouncil x = Check.council("9ab;9cd;9abcd;1e");
        check.due("nothing", x.cover(0), 0);
        check.row("nothing", x, 0);
        check.due("one for all", x.cover(15), 1);
        check.row("one for all", x, 4);
        check.due("the least", x.cover(3), 1);
        check.row("the least", x, 1);
        check.due("two", x.cover(31), 2);
        check.row("two", x, 12);
        check.due("can't", x.cover(32), -2);
        check.row("the row stays", x, 12);
        check.due("other bits", x.cover(256), -1);
        check.due("below", x.cover(-1), -1);
        x.talk(2, 0, 0);
        check.due("said and worn or not", x.cover(15), 1);
        Check.text(x, "11112111");
        x.lengths();
        check.due("too long", x.cover(16), -2);
        HatAtCouncil y = Check.council("9ab;9bc;9cd;9ad");
        check.due("of as few the least bits", y.cover(15), 2);
        check.row("of as few the least bits", y, 5);
        check.due("a by nobody", Check.council("9b;9c").cover(1), -2);
        check.due("all by nobody", new HatAtCouncil().cover(255), -2);
    }

    private static void shares() {
        HatAtCouncil x = Check.council("9ab;9a");
        check.due("both", x.shares(), 2);
        check.row("both", x, 1, 0, -1, -1, -1, -1, -1, -1);
        check.due("one alone", Check.council("9ab").shares(), 1);
        HatAtCouncil y = Check.council("9ab;9ab;9ah");
        check.due("three", y.shares(), 3);
        check.row("nobody is the least, then the first", y, 0, 1, -1, -1, -1, -1, -1, 2);
        y.talk(0, 0, 0);
        check.due("a is said", y.shares(), 2);
        check.row("a is said", y, -1, 0, -1, -1, -1, -1, -1, 2);
        HatAtCouncil z = Check.council("9ab");
        z.shares();
        check.row("nobody is less than somebody", z, -1, 0, -1, -1, -1, -1, -1, -1);
        Check.text(z, "21111111");
        z.lengths();
        z.sheet(2, 1, 1, 0);
        check.due("too long", z.shares(), 1);
        HatAtCouncil all = Check.council("1abcdefgh;1abcdefgh;1abcdefgh;1abcdefgh;1abcdefgh;1abcdefgh;1abcdefgh;1a");
        check.due("all", all.shares(), 8);
        check.row("all", all, 7, 0, 1, 2, 3, 4, 5, 6);
        check.due("one table serves both", all.order(255, 0), 8);
        Check.text(all, "99999999");
        all.lengths();
        check.due("one table serves both", all.shares(), 0);
        check.row("nobody", all, -1, -1, -1, -1, -1, -1, -1, -1);
    }

    private static void most() {
        HatAtCouncil x = Check.council("5abc;2abc");
        Check.text(x, "53211111");
        x.lengths();
        check.due("no time", x.most(0, 0), 0);
        check.row("no time", x, 0);
        check.due("one, the least long", x.most(0, 4), 1);
        check.row("one, the least long", x, 4);
        check.due("two", x.most(0, 5), 2);
        check.row("two", x, 6);
        check.due("two, still", x.most(0, 9), 2);
        check.due("three", x.most(0, 60), 3);
        check.row("three", x, 7);
        check.due("short of breath", x.most(1, 60), 1);
        check.row("short of breath", x, 4);
        x.talk(0, 0, 1);
        check.due("b is said; the hat does not count", x.most(0, 60), 2);
        check.row("b is said", x, 5);
        check.due("v below", x.most(0, -1), -1);
        check.due("v above", x.most(0, 61), -1);
        check.due("none such", x.most(2, 1), -1);
        check.due("none such below", x.most(-1, 1), -1);
        HatAtCouncil y = Check.council("9abcd");
        y.most(0, 2);
        check.row("of as long ones the least bits", y, 3);
        HatAtCouncil one = Check.council("9a");
        check.due("a alone", one.most(0, 1), 1);
        check.row("a alone", one, 1);
        HatAtCouncil all = Check.council("9abcdefgh");
        check.due("all", all.most(0, 8), 8);
        check.row("all", all, 255);
    }

    private static void fro() {
        HatAtCouncil x = Check.council("9ab;9ab;9");
        check.due("to and fro", x.fro(0, 1), 2);
        check.row("to and fro", x, 2, 0);
        check.due("the other can't", x.fro(0, 2), 1);
        check.row("the other can't", x, 1, 2);
        check.due("the first can't", x.fro(2, 0), 0);
        check.row("the first can't", x, 0, 2);
        check.due("like ones", x.fro(1, 1), -1);
        check.due("none such", x.fro(0, 3), -1);
        check.due("none such first", x.fro(-1, 0), -1);
        x.talk(0, 1, 0);
        check.due("the first one wears the hat", x.fro(0, 1), -2);
        check.row("the row stays", x, 0, 2);
        check.due("the second one wears it", x.fro(1, 0), 2);
        check.row("the second one wears it", x, 2, 1);
        x.midnight(3);
        check.due("before midnight", x.fro(1, 0), 1);
        check.row("before midnight", x, 1, 0);
        check.due("nothing changed", x.count(5), 0);
        HatAtCouncil all = Check.council("1abcdefgh;1abcdefgh");
        check.due("all", all.fro(1, 0), 8);
        check.row("all", all, 8, 1);
        HatAtCouncil y = Check.three();
        check.due("by breath and length", y.fro(0, 2), 2);
        check.row("by breath and length", y, 5, 0);
        y.talk(2, 0, 1);
        check.due("b is said", y.fro(1, 2), 2);
        check.row("b is said", y, 3, 1);
    }

    private static void game() {
        HatAtCouncil x = new HatAtCouncil();
        check.due("none left", x.game(0, 3, 3), -2);
        check.due("one left", x.game(1, 9, 9), 0);
        check.due("two left", x.game(2, 1, 9), 1);
        check.due("three, 1 by 2", x.game(3, 1, 2), 0);
        check.due("three, 2 by 1", x.game(3, 2, 1), 2);
        check.due("the fewest", x.game(4, 9, 1), 1);
        check.due("60", x.game(60, 9, 9), 9);
        check.due("51", x.game(51, 9, 9), 0);
        int[][] others = {{-1, 1, 1}, {61, 1, 1}, {1, 0, 1}, {1, 10, 1}, {1, 1, 0}, {1, 1, 10}, {0, 0, 1}};
        for (int[] o : others) {
            check.due("game " + o[0] + " " + o[1] + " " + o[2], x.game(o[0], o[1], o[2]), -1);
        }
        for (int n = 1; n <= 60; n++) {
            for (int a = 1; a <= 9; a++) {
                for (int b = 1; b <= 9; b++) {
                    check.due("game " + n + " " + a + " " + b, x.game(n, a, b), Model.game(n, a, b));
                }
            }
        }
    }

    private static void wins() {
        HatAtCouncil x = new HatAtCouncil();
        check.due("even ones", x.wins(1, 1), 30);
        check.row("even ones", x, 59);
        check.due("all but every tenth", x.wins(9, 9), 54);
        check.row("all but every tenth", x, 51);
        check.due("all but one", x.wins(9, 1), 59);
        check.row("all but one", x, 1);
        check.due("two left alone", x.wins(1, 9), 1);
        check.row("two left alone", x, 60);
        int[][] others = {{0, 1}, {10, 1}, {1, 0}, {1, 10}};
        for (int[] o : others) {
            check.due("wins " + o[0] + " " + o[1], x.wins(o[0], o[1]), -1);
        }
        check.row("refused", x, 60);
    }

    private static void silent() {
        HatAtCouncil x = new HatAtCouncil();
        check.due("half", x.silent(3, 1, 5, 2), 0);
        check.row("half", x, 1, 2);
        x.silent(1, 1, 3, 1);
        check.row("seven tenths", x, 7, 10);
        x.silent(1, 2, 5, 1);
        check.row("both are still", x, 1, 4);
        x.silent(2, 2, 5, 1);
        check.row("once of two", x, 7, 16);
        x.silent(8, 2, 9, 8);
        check.row("the least likely", x, 1, 10000000000000000L);
        x.silent(4, 4, 9, 1);
        check.row("1 less 9999 by 10000 to the 4th", x, 10000000000000000L - 9999L * 9999L * 9999L * 9999L, 10000000000000000L);
        x.silent(10, 1, 0, 10);
        check.row("sure", x, 1, 1);
        x.silent(10, 1, 10, 1);
        check.row("never", x, 0, 1);
        x.silent(2, 1, 5, 3);
        check.row("more than there are", x, 0, 1);
        x.silent(2, 1, 10, 0);
        check.row("none or more", x, 1, 1);
        int[][] others = {{0, 1, 1, 1}, {11, 1, 1, 1}, {1, 0, 1, 1}, {1, 5, 1, 1}, {1, 1, -1, 1}, {1, 1, 11, 1},
            {1, 1, 1, -1}, {1, 1, 1, 11}, {6, 3, 1, 1}, {5, 4, 1, 1}, {9, 2, 1, 1}};
        for (int[] o : others) {
            check.due("silent " + o[0] + " " + o[1] + " " + o[2] + " " + o[3], x.silent(o[0], o[1], o[2], o[3]), -1);
        }
        check.row("refused", x, 1, 1);
    }

    private static void lot() {
        HatAtCouncil x = Check.three();
        check.due("nobody wears it", x.lot(0, 1), 0);
        check.row("nobody wears it", x, 1, 3);
        x.lot(2, 8);
        check.row("still like likely", x, 1, 3);
        x.talk(0, 1, 0);
        x.lot(0, 1);
        check.row("who wears it", x, 0, 1);
        x.lot(1, 1);
        check.row("another", x, 1, 2);
        x.lot(0, 2);
        check.row("back again", x, 1, 2);
        x.lot(0, 3);
        check.row("by three", x, 1, 4);
        x.lot(1, 8);
        check.row("by eight", x, 85, 256);
        check.due("none such", x.lot(3, 1), -1);
        check.due("none such below", x.lot(-1, 1), -1);
        check.due("n below", x.lot(0, 0), -1);
        check.due("n above", x.lot(0, 9), -1);
        check.row("refused", x, 85, 256);
        HatAtCouncil one = Check.council("1");
        check.due("fewer than two", one.lot(0, 1), -2);
        check.due("fewer than two, n above", one.lot(0, 9), -1);
        check.due("none at all", new HatAtCouncil().lot(0, 1), -1);
        HatAtCouncil two = Check.council("1;1");
        two.talk(0, 1, 0);
        two.lot(0, 8);
        check.row("two, to and fro", two, 1, 1);
        two.lot(0, 7);
        check.row("two, to and fro", two, 0, 1);
    }
}
