/** The edges that promises 24 to 32 name, sentence by sentence: how all is said, games, chances. */
public final class EdgesOfSayingTest {
    private static final Check check = new Check();
    private static final Twins twins = new Twins(check);
    private static final int LEAST = Integer.MIN_VALUE;
    private static final int GREATEST = Integer.MAX_VALUE;

    public static void main(String[] args) {
        questionsChangeNothing();
        orderOfNothing();
        orderTillMidnight();
        orderByBreath();
        orderThatCanNotBe();
        orderOfOthers();
        orderOfAnybody();
        orderOfTheLeastRow();
        coverOfNothingAndAll();
        coverThatCanNotBe();
        coverOfAsFew();
        coverOfOthers();
        sharesOfNoneAndAll();
        sharesOfAsMany();
        mostInNoneTo60();
        mostOfAsMany();
        mostOfOthers();
        froTillOneCanNot();
        froTillMidnight();
        froWithTheHat();
        froOfOthers();
        gameOfNoneTo60();
        gameOfOthers();
        winsOfAll();
        winsOfOthers();
        silentOfEachEdge();
        silentOfUpTo16();
        silentOfOthers();
        lotOfOneToEight();
        lotOfFewerThanTwo();
        lotOfOthers();
        check.end();
    }

    /** Terms 2: Questions change nothing. */
    private static void questionsChangeNothing() {
        twins.question("order", Twins::busy, x -> x.order(1, 0), 2);
        twins.question("cover", Twins::busy, x -> x.cover(15), 2);
        twins.question("shares", Twins::busy, HatAtCouncil::shares, 1);
        twins.question("most", Twins::busy, x -> x.most(0, 60), 1);
        twins.question("fro", Twins::busy, x -> x.fro(0, 1), 1);
        twins.refused("game", Twins::busy, x -> x.game(60, 9, 9), 9);
        twins.question("wins", Twins::busy, x -> x.wins(9, 9), 54);
        twins.question("silent", Twins::busy, x -> x.silent(10, 1, 5, 5), 0);
        twins.question("lot", Twins::busy, x -> x.lot(0, 8), 0);
    }

    // 24: order()

    private static void orderOfNothing() {
        HatAtCouncil none = new HatAtCouncil();
        none.mute();
        check.due("nothing by nobody", none.order(0, -1), 0);
        check.row("nothing by nobody", none);
        HatAtCouncil x = Check.council("1a;1b");
        x.mute();
        check.due("nothing", x.order(0, -1), 0);
        check.row("nothing", x);
        check.due("nothing, nobody wears the hat", x.order(0, 0), 0);
        x.talk(0, 1, 0);
        check.due("nothing, another one wears it", x.order(0, 1), 0);
        check.due("nothing, he wears it", x.order(0, 0), 1);
        check.row("nothing, he wears it", x, 1, 8);
    }

    /** 24: MINUTE being less than MIDNIGHT then. */
    private static void orderTillMidnight() {
        Twins.Act before = x -> {
            Check.come(x, "9a;9");
            Check.lengths(x, "91111111");
            x.midnight(9);
            x.vote();
        };
        twins.refused("at midnight", before, x -> x.order(1, -1), -2);
        HatAtCouncil x = new HatAtCouncil();
        before.on(x);
        x.midnight(10);
        check.due("a minute ahead of it", x.order(1, -1), 9);
        check.row("a minute ahead of it", x, 0, 0);
        check.due("no time for a sneeze", x.order(1, 0), -2);
        x.midnight(11);
        check.due("time for a sneeze", x.order(1, 0), 10);
        check.row("time for a sneeze", x, 0, 0, 1, 8);
        x.midnight(60);
        x.talk(1, 1, 0);
        x.midnight(10);
        check.due("a minute has gone", x.order(1, -1), -2);
        x.midnight(11);
        check.due("still a minute ahead of it", x.order(1, -1), 9);
        HatAtCouncil long60 = Check.council("9abcdef;9abcdef");
        Check.lengths(long60, "99999911");
        long60.midnight(55);
        check.due("54 minutes", long60.order(63, -1), 54);
        check.due("twelve numbers", long60.count(10), 12);
        long60.midnight(54);
        check.due("not 54 minutes", long60.order(63, -1), -2);
        HatAtCouncil minute59 = Check.council("1;1");
        minute59.midnight(60);
        minute59.turn(58);
        minute59.talk(0, 1, 0);
        check.due("in the last minute", minute59.order(0, 1), 0);
        check.due("no time for a sneeze", minute59.order(0, 0), -2);
    }

    /** Terms 1: CAN SAY. */
    private static void orderByBreath() {
        HatAtCouncil x = Check.council("3a;4a");
        Check.lengths(x, "31111111");
        check.due("just enough", x.order(1, -1), 3);
        check.row("just enough", x, 0, 0);
        Check.lengths(x, "41111111");
        check.due("just too long for 0", x.order(1, -1), 4);
        check.row("just too long for 0", x, 1, 0);
        Check.lengths(x, "51111111");
        check.due("too long for both", x.order(1, -1), -2);
    }

    /** 24: -2: it can't be so. */
    private static void orderThatCanNotBe() {
        twins.refused("nobody wants e", Twins::busy, x -> x.order(16, -1), -2);
        twins.refused("nobody wants all of it", Twins::busy, x -> x.order(17, -1), -2);
        twins.refused("nobody is there", x -> { }, x -> x.order(1, -1), -2);
        twins.refused("alone, two things", x -> Check.come(x, "1ab"), x -> x.order(3, -1), -2);
        twins.refused("alone, but not with the hat", x -> Check.come(x, "1ab"), x -> x.order(1, 0), -2);
        twins.refused("alone, and with the hat", x -> {
            Check.come(x, "1ab");
            x.talk(0, 1, 0);
        }, x -> x.order(1, -1), -2);
        twins.refused("alone, with the hat, nothing", x -> {
            Check.come(x, "1ab");
            x.talk(0, 1, 0);
        }, x -> x.order(0, 0), -2);
    }

    /** 24: NONE: others, SAID ones among them. */
    private static void orderOfOthers() {
        int[] bits = {-1, 256, 257, GREATEST, LEAST, 2, 4, 8, 3, 14, 255};
        for (int things : bits) {
            twins.refused("order " + things, Twins::busy, x -> x.order(things, -1), -1);
        }
        int[] men = {-2, 3, 8, GREATEST, LEAST};
        for (int not : men) {
            twins.refused("order 1 " + not, Twins::busy, x -> x.order(1, not), -1);
            twins.refused("order 16 " + not, Twins::busy, x -> x.order(16, not), -1);
        }
        twins.refused("of nobody", x -> { }, x -> x.order(0, 0), -1);
    }

    /** 24: councillor not (NONE: anybody). */
    private static void orderOfAnybody() {
        HatAtCouncil x = Check.council("1a;1a;1a;1a;1a;1a;1a;1a");
        check.due("anybody", x.order(1, -1), 1);
        check.row("anybody", x, 0, 0);
        check.due("not the first", x.order(1, 0), 1);
        check.row("not the first", x, 1, 0);
        check.due("not the last", x.order(1, 7), 1);
        check.row("not the last", x, 0, 0);
        x.talk(7, 1, 0);
        check.due("the last wears it", x.order(1, 7), 1);
        check.row("the last wears it", x, 0, 0);
        check.due("the last wears it, nothing", x.order(0, 7), 1);
        check.row("the last wears it, nothing", x, 0, 8);
    }

    /** 24: of as few minutes the least row (8: a sneeze). */
    private static void orderOfTheLeastRow() {
        HatAtCouncil x = Check.council("1;1a;1;1a");
        x.talk(1, 1, 0);
        check.due("3 says it at once", x.order(1, -1), 1);
        check.row("3 says it at once", x, 3, 0);
        check.due("3 says it, 0 sneezes", x.order(1, 3), 2);
        check.row("a sneeze of 0 ahead is the least", x, 0, 8, 1, 0);
        HatAtCouncil all = Check.council("1abcdefgh;1");
        all.midnight(60);
        check.due("all, with sneezes between", all.order(255, -1), 15);
        check.row("all", all, 0, 0, 1, 8, 0, 1, 1, 8, 0, 2, 1, 8, 0, 3, 1, 8, 0, 4, 1, 8, 0, 5, 1, 8, 0, 6, 1, 8, 0, 7);
        check.due("and one behind", all.order(255, 0), 16);
        check.due("32 numbers", all.count(10), 32);
        all.talk(0, 1, 0);
        check.due("and one ahead", all.order(255, 0), 17);
        check.due("34 numbers", all.count(10), 34);
        check.due("the first one", all.row(0), 1);
        check.due("a sneeze", all.row(1), 8);
        HatAtCouncil told = Check.council("1ab;1c;9");
        check.due("what is not told is not said", told.order(3, -1), 3);
        check.row("what is not told is not said", told, 0, 0, 1, 8, 0, 1);
    }

    // 25: cover()

    private static void coverOfNothingAndAll() {
        HatAtCouncil none = new HatAtCouncil();
        check.due("nothing by nobody", none.cover(0), 0);
        check.row("nothing by nobody", none, 0);
        HatAtCouncil x = Check.council("1a;1b;1c;1d;1e;1f;1g;1h");
        check.due("all by all", x.cover(255), 8);
        check.row("all by all", x, 255);
        check.due("h by the last", x.cover(128), 1);
        check.row("h by the last", x, 128);
        check.due("nothing", x.cover(0), 0);
        check.row("nothing", x, 0);
        HatAtCouncil said = Check.council("1a;1");
        said.talk(0, 0, 0);
        check.due("by wants, breath alone", said.cover(1), 1);
        check.row("by wants, breath alone", said, 1);
    }

    /** 25: -2: all can't. */
    private static void coverThatCanNotBe() {
        twins.refused("e", Twins::busy, x -> x.cover(16), -2);
        twins.refused("e and a", Twins::busy, x -> x.cover(17), -2);
        twins.refused("all", Twins::busy, x -> x.cover(255), -2);
        twins.refused("nobody is there", x -> { }, x -> x.cover(1), -2);
        HatAtCouncil x = Check.council("3a");
        Check.lengths(x, "31111111");
        check.due("just enough breath", x.cover(1), 1);
        Check.lengths(x, "41111111");
        check.due("too long", x.cover(1), -2);
    }

    /** 25: of as few the least. */
    private static void coverOfAsFew() {
        HatAtCouncil x = Check.council("1a;1b;1ab;1ab");
        check.due("one", x.cover(3), 1);
        check.row("the first such one", x, 4);
        HatAtCouncil y = Check.council("1a;1bc;1ab;1c");
        check.due("two", y.cover(7), 2);
        check.row("0 and 1, not 2 and 3", y, 3);
    }

    /** 25: NONE: other bits. */
    private static void coverOfOthers() {
        int[] others = {-1, 256, 257, GREATEST, LEAST};
        for (int things : others) {
            twins.refused("cover " + things, Twins::busy, x -> x.cover(things), -1);
            twins.refused("cover " + things + " by nobody", x -> { }, x -> x.cover(things), -1);
        }
    }

    // 26: shares()

    private static void sharesOfNoneAndAll() {
        HatAtCouncil none = new HatAtCouncil();
        check.due("by nobody", none.shares(), 0);
        check.row("by nobody", none, -1, -1, -1, -1, -1, -1, -1, -1);
        HatAtCouncil x = Check.council("1h;1g;1f;1e;1d;1c;1b;1a");
        check.due("all", x.shares(), 8);
        check.row("all", x, 7, 6, 5, 4, 3, 2, 1, 0);
        x.order(255, 7);
        check.due("all, behind an order", x.shares(), 8);
        check.row("all, behind an order", x, 7, 6, 5, 4, 3, 2, 1, 0);
        check.due("an order behind shares", x.order(255, 7), 8);
        check.row("an order behind shares", x, 0, 7, 1, 6, 2, 5, 3, 4, 4, 3, 5, 2, 7, 0, 6, 1);
        x.talk(7, 0, 0);
        check.due("a is said", x.shares(), 7);
        check.row("a is said", x, -1, 6, 5, 4, 3, 2, 1, 0);
        Check.lengths(x, "12111111");
        check.due("b is too long", x.shares(), 6);
        check.row("b is too long", x, -1, -1, 5, 4, 3, 2, 1, 0);
        HatAtCouncil breath = Check.council("3a");
        Check.lengths(breath, "31111111");
        check.due("just enough breath", breath.shares(), 1);
        check.row("just enough breath", breath, 0, -1, -1, -1, -1, -1, -1, -1);
    }

    /** 26: NONE: nobody; of as many the least row. */
    private static void sharesOfAsMany() {
        HatAtCouncil x = Check.council("1ah");
        check.due("one", x.shares(), 1);
        check.row("nobody first", x, -1, -1, -1, -1, -1, -1, -1, 0);
        HatAtCouncil y = Check.council("1abc;1abc");
        check.due("two", y.shares(), 2);
        check.row("nobody first, then 0", y, -1, 0, 1, -1, -1, -1, -1, -1);
        HatAtCouncil z = Check.council("1ab;1a;1ab");
        check.due("two of three", z.shares(), 2);
        check.row("0 first", z, 0, 2, -1, -1, -1, -1, -1, -1);
    }

    // 27: most()

    /** 27: in v minutes (0 .. 60). */
    private static void mostInNoneTo60() {
        HatAtCouncil x = Check.council("9abcdefgh");
        Check.lengths(x, "99999999");
        for (int v = 0; v <= 60; v++) {
            check.due("most in " + v, x.most(0, v), v / 9);
            check.row("most in " + v, x, (1 << v / 9) - 1);
        }
        HatAtCouncil y = Check.council("3ab");
        Check.lengths(y, "34111111");
        check.due("just enough breath", y.most(0, 60), 1);
        check.row("just enough breath", y, 1);
        check.due("just enough minutes", y.most(0, 3), 1);
        check.due("too few minutes", y.most(0, 2), 0);
        check.row("too few minutes", y, 0);
        y.talk(0, 0, 0);
        check.due("a is said", y.most(0, 60), 0);
        check.row("a is said", y, 0);
    }

    /** 27: of as many those with the least LENGTH together, then the least bits. */
    private static void mostOfAsMany() {
        HatAtCouncil x = Check.council("9abcd");
        Check.lengths(x, "32211111");
        check.due("one in 1", x.most(0, 1), 1);
        check.row("d", x, 8);
        check.due("two in 3", x.most(0, 3), 2);
        check.row("b and d, not c and d", x, 10);
        check.due("two in 4", x.most(0, 4), 2);
        check.row("b and d, not b and c", x, 10);
        check.due("three in 5", x.most(0, 5), 3);
        check.row("b, c and d", x, 14);
    }

    /** 27: NONE: others. */
    private static void mostOfOthers() {
        int[] men = {-1, 3, 8, GREATEST, LEAST};
        for (int man : men) {
            twins.refused("most " + man + " 5", Twins::busy, x -> x.most(man, 5), -1);
        }
        int[] minutes = {-1, 61, GREATEST, LEAST};
        for (int v : minutes) {
            twins.refused("most 0 " + v, Twins::busy, x -> x.most(0, v), -1);
            twins.refused("most 2 " + v, Twins::busy, x -> x.most(2, v), -1);
        }
        twins.refused("most of nobody", x -> { }, x -> x.most(0, 0), -1);
    }

    // 28: fro()

    /** 28: till one can't. */
    private static void froTillOneCanNot() {
        HatAtCouncil x = Check.council("1;1a;1ab;3c");
        Check.lengths(x, "11311111");
        check.due("the first one can't", x.fro(0, 1), 0);
        check.row("the first one can't", x, 0, 0);
        check.due("the second one can't", x.fro(1, 0), 1);
        check.row("the second one can't", x, 1, 0);
        check.due("a, b, and then 1 can't", x.fro(1, 2), 2);
        check.row("a, b, and then 1 can't", x, 2, 1);
        check.due("just enough breath", x.fro(3, 0), 1);
        check.row("just enough breath", x, 3, 0);
        Check.lengths(x, "11411111");
        check.due("too long", x.fro(3, 0), 0);
        check.row("too long", x, 0, 3);
        HatAtCouncil all = Check.council("1aceg;1bdfh");
        check.due("all eight", all.fro(0, 1), 8);
        check.row("all eight", all, 8, 0);
        all.talk(1, 0, 1);
        check.due("b is said", all.fro(0, 1), 7);
        check.row("b is said", all, 7, 1);
    }

    /** 28: or MINUTE would be MIDNIGHT or more by it (that one is not said). */
    private static void froTillMidnight() {
        HatAtCouncil x = Check.council("9ac;9bd");
        Check.lengths(x, "23451111");
        int[] midnights = {1, 2, 3, 4, 5, 6, 9, 10, 14, 15};
        int[] talks = {0, 0, 1, 1, 1, 2, 2, 3, 3, 4};
        int[] minutes = {0, 0, 2, 2, 2, 5, 5, 9, 9, 14};
        for (int i = 0; i < midnights.length; i++) {
            x.midnight(midnights[i]);
            check.due("till " + midnights[i], x.fro(0, 1), talks[i]);
            check.row("till " + midnights[i], x, minutes[i], talks[i] % 2);
        }
        Check.come(x, "1");
        x.talk(2, 1, 0);
        check.due("a minute has gone", x.fro(0, 1), 3);
        x.midnight(16);
        check.due("a minute later", x.fro(0, 1), 4);
        Check.lengths(x, "23951111");
        x.midnight(15);
        check.due("it does not go on with what is shorter", x.fro(0, 1), 2);
        check.row("it does not go on with what is shorter", x, 5, 0);
    }

    /** 28: -2: the first one WEARS THE HAT. */
    private static void froWithTheHat() {
        twins.refused("2 wears it", Twins::busy, x -> x.fro(2, 0), -2);
        twins.refused("2 wears it", Twins::busy, x -> x.fro(2, 1), -2);
        HatAtCouncil x = new HatAtCouncil();
        Twins.busy(x);
        check.due("the second one may wear it", x.fro(0, 2), 1);
        check.row("the second one may wear it", x, 2, 2);
    }

    /** 28: NONE: none such, like ones. */
    private static void froOfOthers() {
        int[][] others = {{-1, 0}, {0, -1}, {3, 0}, {0, 3}, {2, 3}, {2, -1}, {0, 0}, {2, 2}, {-1, -1}, {3, 3},
            {GREATEST, 0}, {0, LEAST}};
        for (int[] o : others) {
            twins.refused("fro " + o[0] + " " + o[1], Twins::busy, x -> x.fro(o[0], o[1]), -1);
        }
        twins.refused("fro of nobody", x -> { }, x -> x.fro(-1, 0), -1);
    }

    // 29: game()

    /** 29: n minutes (0 .. 60); 0: he can't; -2: none is left. */
    private static void gameOfNoneTo60() {
        HatAtCouncil x = new HatAtCouncil();
        for (int a = 1; a <= 9; a++) {
            check.due("none is left by " + a, x.game(0, a, 10 - a), -2);
            check.due("the last one is left", x.game(1, a, 10 - a), 0);
            check.due("one is taken of two", x.game(2, a, 10 - a), 1);
            for (int n = 1; n <= 60; n++) {
                // of equal ones the first leaves one more than a multiple of a + 1
                check.due("game " + n + " " + a + " " + a, x.game(n, a, a), (n - 1) % (a + 1));
            }
        }
        check.due("no more than are left", x.game(3, 9, 9), 2);
        check.due("60 by 9 and 1", x.game(60, 9, 1), 1);
        check.due("60 by 1 and 9", x.game(60, 1, 9), 0);
    }

    /** 29: NONE: others. */
    private static void gameOfOthers() {
        int[][] others = {{-1, 1, 1}, {61, 1, 1}, {GREATEST, 9, 9}, {LEAST, 9, 9}, {5, 0, 1}, {5, 10, 1}, {5, 1, 0},
            {5, 1, 10}, {5, -1, 1}, {5, 1, LEAST}, {5, GREATEST, 1}, {0, 0, 1}, {0, 1, 0}, {0, 10, 1}, {0, 1, 10}};
        for (int[] o : others) {
            String call = "game " + o[0] + " " + o[1] + " " + o[2];
            twins.refused(call, Twins::busy, x -> x.game(o[0], o[1], o[2]), -1);
        }
    }

    // 30: wins()

    private static void winsOfAll() {
        HatAtCouncil x = new HatAtCouncil();
        for (int a = 1; a <= 9; a++) {
            for (int b = 1; b <= 9; b++) {
                int won = 0;
                int lost = 0;
                for (int n = 1; n <= 60; n++) {
                    boolean wins = x.game(n, a, b) > 0;
                    won += wins ? 1 : 0;
                    lost = wins ? lost : n;
                }
                check.due("wins " + a + " " + b, x.wins(a, b), won);
                check.row("wins " + a + " " + b, x, lost);
            }
        }
        x.wins(9, 1);
        check.row("only the last minute is lost", x, 1);
        x.wins(1, 9);
        check.row("60 is lost, too", x, 60);
    }

    /** 30: NONE: others. */
    private static void winsOfOthers() {
        int[][] others = {{0, 1}, {10, 1}, {1, 0}, {1, 10}, {0, 0}, {-1, 5}, {GREATEST, 5}, {5, LEAST}};
        for (int[] o : others) {
            twins.refused("wins " + o[0] + " " + o[1], Twins::busy, x -> x.wins(o[0], o[1]), -1);
        }
    }

    // 31: silent()

    private static void fraction(int n, int k, int p, int v, long upper, long lower) {
        HatAtCouncil x = new HatAtCouncil();
        String call = "silent " + n + " " + k + " " + p + " " + v;
        check.due(call, x.silent(n, k, p, v), 0);
        check.row(call, x, upper, lower);
    }

    /** 31: n (1 .. 10), k (1 .. 4), p tenths (0 .. 10), v (0 .. 10); terms 2: 0 by 1. */
    private static void silentOfEachEdge() {
        fraction(1, 1, 5, 0, 1, 1);
        fraction(1, 1, 5, 1, 1, 2);
        fraction(1, 1, 5, 2, 0, 1);
        fraction(1, 1, 5, 10, 0, 1);
        fraction(10, 1, 5, 10, 1, 1024);
        fraction(10, 1, 5, 9, 11, 1024);
        fraction(10, 1, 5, 0, 1, 1);
        fraction(10, 1, 5, 1, 1023, 1024);
        fraction(1, 4, 5, 1, 1, 16);
        fraction(4, 4, 5, 4, 1, 65536);
        fraction(3, 2, 0, 3, 1, 1);
        fraction(3, 2, 0, 4, 0, 1);
        fraction(3, 2, 10, 0, 1, 1);
        fraction(3, 2, 10, 1, 0, 1);
        fraction(1, 1, 1, 1, 9, 10);
        fraction(1, 1, 9, 1, 1, 10);
        fraction(1, 1, 4, 1, 3, 5);
    }

    /** 31: NONE: n times k above 16. */
    private static void silentOfUpTo16() {
        long whole = 10000000000000000L;
        fraction(8, 2, 9, 8, 1, whole);
        fraction(4, 4, 9, 4, 1, whole);
        fraction(8, 2, 9, 1, whole - 99L * 99 * 99 * 99 * 99 * 99 * 99 * 99, whole);
        fraction(4, 4, 1, 4, 6561L * 6561 * 6561 * 6561, whole);
        fraction(5, 3, 9, 5, 1, 1000000000000000L);
        int[][] above = {{9, 2}, {10, 2}, {6, 3}, {10, 3}, {5, 4}, {10, 4}};
        for (int[] o : above) {
            String call = "silent " + o[0] + " times " + o[1];
            twins.refused(call, Twins::busy, x -> x.silent(o[0], o[1], 5, 1), -1);
        }
    }

    /** 31: NONE: others. */
    private static void silentOfOthers() {
        int[][] others = {{0, 1, 5, 1}, {11, 1, 5, 1}, {-1, 1, 5, 1}, {2, 0, 5, 1}, {2, 5, 5, 1}, {2, -1, 5, 1},
            {2, 1, -1, 1}, {2, 1, 11, 1}, {2, 1, 5, -1}, {2, 1, 5, 11}, {-2, -2, 5, 1},
            {GREATEST, GREATEST, 5, 1}, {LEAST, 1, 5, 1}, {2, 1, LEAST, 1}, {2, 1, 5, GREATEST}};
        for (int[] o : others) {
            String call = "silent " + o[0] + " " + o[1] + " " + o[2] + " " + o[3];
            twins.refused(call, Twins::busy, x -> x.silent(o[0], o[1], o[2], o[3]), -1);
        }
    }

    // 32: lot()

    private static void lots(HatAtCouncil x, int man, int n, long upper, long lower) {
        check.due("lot " + man + " " + n, x.lot(man, n), 0);
        check.row("lot " + man + " " + n, x, upper, lower);
    }

    /** 32: n times (1 .. 8); terms 2: in lowest terms (0 by 1). */
    private static void lotOfOneToEight() {
        HatAtCouncil two = Check.council("1;1");
        for (int n = 1; n <= 8; n++) {
            lots(two, 0, n, 1, 2);
        }
        two.talk(1, 1, 0);
        for (int n = 1; n <= 8; n++) {
            lots(two, 0, n, n % 2, 1);
            lots(two, 1, n, 1 - n % 2, 1);
        }
        HatAtCouncil eight = Check.council("1;1;1;1;1;1;1;1");
        lots(eight, 7, 1, 1, 8);
        lots(eight, 7, 8, 1, 8);
        eight.talk(7, 1, 0);
        lots(eight, 7, 1, 0, 1);
        lots(eight, 0, 1, 1, 7);
        lots(eight, 7, 2, 1, 7);
        lots(eight, 0, 2, 6, 49);
        // of 7 to the 8th ways an eighth and 7 / 8 come back; both can be divided by 7
        lots(eight, 7, 8, (5764801 + 7) / 8 / 7, 5764801 / 7);
    }

    /** 32: -2: there are fewer than two councillors. */
    private static void lotOfFewerThanTwo() {
        for (int n = 1; n <= 8; n++) {
            int times = n;
            twins.refused("one alone", x -> Check.come(x, "1a"), x -> x.lot(0, times), -2);
            twins.refused("one alone, with the hat", x -> {
                Check.come(x, "1a");
                x.turn(1);
            }, x -> x.lot(0, times), -2);
        }
    }

    /** 32: NONE: others. */
    private static void lotOfOthers() {
        int[] men = {-1, 3, 8, GREATEST, LEAST};
        for (int man : men) {
            twins.refused("lot " + man + " 1", Twins::busy, x -> x.lot(man, 1), -1);
        }
        int[] times = {0, -1, 9, GREATEST, LEAST};
        for (int n : times) {
            twins.refused("lot 0 " + n, Twins::busy, x -> x.lot(0, n), -1);
            twins.refused("lot of one alone " + n, x -> Check.come(x, "1a"), x -> x.lot(0, n), -1);
        }
        twins.refused("nobody is there", x -> { }, x -> x.lot(0, 1), -1);
        twins.refused("not he, who is alone", x -> Check.come(x, "1a"), x -> x.lot(1, 1), -1);
    }
}
