/** The edges that promises 33 to 43 name, sentence by sentence: who it was, laws, rests, years, kept, counts, rows. */
public final class EdgesOfWhoTest {
    private static final Check check = new Check();
    private static final Twins twins = new Twins(check);
    private static final int LEAST = Integer.MIN_VALUE;
    private static final int GREATEST = Integer.MAX_VALUE;

    public static void main(String[] args) {
        questionsChangeNothing();
        heardOfEachEdge();
        heardOfOthers();
        heardOfTwelve();
        forgetOfNoneToTwelve();
        fitsOfNoneAndAll();
        fitsOrMoreOrLess();
        fitsAt999();
        askOfEqualOnes();
        askOfNone();
        lawMayBeEmpty();
        lawOfASilence();
        lawThatCanNotBe();
        restsOfNoneToNine();
        restsOfOthers();
        yearsOfOneTo60();
        yearsOfOthers();
        yearsOfNobody();
        yearsOfWhatCanNotBe();
        yearsOfAnySeed();
        keepOfThree();
        keepOfOthers();
        againOfNothing();
        againOfOthers();
        againTillCouncillorsCome();
        againBringsBackWhatUndoDoes();
        countOfNobody();
        countOfOthers();
        rowOfNone();
        rowOfTheLongest();
        check.end();
    }

    /** Terms 2: Questions change nothing. */
    private static void questionsChangeNothing() {
        twins.question("fits", Twins::busy, HatAtCouncil::fits, 5);
        twins.question("ask", Twins::busy, HatAtCouncil::ask, 0);
        twins.question("rests", Twins::busy, x -> x.rests(9), 10);
        twins.question("years", Twins::busy, x -> x.years(7, 1), 0);
        twins.question("years of 60", Twins::busy, x -> x.years(7, 60) > 0 ? 1 : 0, 1);
        HatAtCouncil x = new HatAtCouncil();
        Twins.busyWith(x, "7");
        check.due("law", x.law(), 0);
        check.row("law", x, 7, 7, 7);
        check.due("the rule stays", x.man(0, 6), 0);
        check.due("nothing more to undo", x.count(9), 6);
    }

    // 33: heard()

    /** 33: v (0 .. 7); v (1 .. 9); v (0 .. 999); v 1 or 0; v (0 .. 999). */
    private static void heardOfEachEdge() {
        int[] least = {0, 1, 0, 0, 0};
        int[] most = {7, 9, 999, 1, 999};
        for (int what = 0; what <= 4; what++) {
            HatAtCouncil x = new HatAtCouncil();
            check.due("heard " + what + " least", x.heard(what, least[what]), 1);
            check.due("heard " + what + " most", x.heard(what, most[what]), 2);
            check.due("both", x.count(8), 2);
        }
    }

    /** 33: Refused: others. */
    private static void heardOfOthers() {
        int[][] others = {{-1, 1}, {5, 1}, {6, 0}, {GREATEST, 1}, {LEAST, 1}, {0, -1}, {0, 8}, {0, 32}, {0, LEAST},
            {1, 0}, {1, 10}, {1, -1}, {1, GREATEST}, {2, -1}, {2, 1000}, {2, LEAST}, {3, -1}, {3, 2}, {3, GREATEST},
            {4, -1}, {4, 1000}, {4, GREATEST}};
        for (int[] o : others) {
            twins.refused("heard " + o[0] + " " + o[1], Twins::busy, x -> x.heard(o[0], o[1]), -1);
        }
    }

    /** 33: Refused: 12. */
    private static void heardOfTwelve() {
        Twins.Act before = x -> {
            Twins.busy(x);
            for (int i = 3; i <= 12; i++) {
                check.due("heard " + i, x.heard(1, 1), i);
            }
        };
        twins.refused("a thirteenth", before, x -> x.heard(0, 7), -1);
        HatAtCouncil x = new HatAtCouncil();
        before.on(x);
        x.heard(0, 7);
        check.due("twelve", x.count(8), 12);
        check.due("the thirteenth does not count", x.fits(), 5);
    }

    // 34: forget()

    private static void forgetOfNoneToTwelve() {
        HatAtCouncil x = Check.council("1;9");
        check.due("none", x.forget(), 0);
        for (int n = 1; n <= 12; n++) {
            for (int i = 0; i < n; i++) {
                x.heard(1, 9);
            }
            check.due("they count", x.fits(), 2);
            check.due("forgotten " + n, x.forget(), n);
            check.due("none is left", x.count(8), 0);
            check.due("all fit again", x.fits(), 3);
        }
    }

    // 35: fits()

    private static void fitsOfNoneAndAll() {
        HatAtCouncil none = new HatAtCouncil();
        check.due("nobody there", none.fits(), 0);
        check.row("nobody there", none, 0);
        HatAtCouncil x = Check.council("1;1;1;1;1;1;1;1");
        check.due("all eight", x.fits(), 255);
        check.row("all eight", x, 8);
        x.heard(0, 0);
        check.due("none fits", x.fits(), 0);
        check.row("none fits", x, 0);
        Check.come(none, "1a");
        none.heard(0, 0);
        none.heard(0, 1);
        check.due("all that was heard, not the first alone", none.fits(), 0);
    }

    private static void fit(HatAtCouncil x, int what, int v, int due) {
        x.forget();
        x.heard(what, v);
        check.due("fits " + what + " " + v, x.fits(), due);
    }

    /** 33: v or more; v or less; or not. */
    private static void fitsOrMoreOrLess() {
        HatAtCouncil x = Check.council("1a;5ah;9h");
        x.midnight(1);
        x.talk(1, 1, 0);
        x.talk(2, 1, 0);
        x.talk(2, 2, 1);
        x.midnight(9);
        x.talk(2, 1, 0);
        // breath 1, 5, 9; spoke 0, 1, 3; paid 0, 2, 1; 1 and 2 had the hat
        fit(x, 0, 0, 3);
        fit(x, 0, 7, 6);
        fit(x, 0, 1, 0);
        fit(x, 1, 1, 7);
        fit(x, 1, 2, 6);
        fit(x, 1, 5, 6);
        fit(x, 1, 6, 4);
        fit(x, 1, 9, 4);
        fit(x, 2, 0, 1);
        fit(x, 2, 1, 3);
        fit(x, 2, 2, 3);
        fit(x, 2, 3, 7);
        fit(x, 2, 999, 7);
        fit(x, 3, 0, 1);
        fit(x, 3, 1, 6);
        fit(x, 4, 0, 1);
        fit(x, 4, 1, 4);
        fit(x, 4, 2, 2);
        fit(x, 4, 3, 0);
    }

    private static void fitsAt999() {
        HatAtCouncil x = Check.council("1a");
        x.midnight(1);
        for (int i = 0; i < 17; i++) {
            x.turn(60);
        }
        fit(x, 2, 998, 0);
        fit(x, 2, 999, 1);
        fit(x, 4, 998, 0);
        fit(x, 4, 999, 1);
    }

    // 36: ask()

    /** 36: the fewest such COUNCILLORS are left at most; of equal ones the first. */
    private static void askOfEqualOnes() {
        HatAtCouncil x = Check.council("1bh;1bh;1g;1");
        check.due("b and h by halves", x.ask(), 1);
        check.row("b and h by halves", x, 2);
        HatAtCouncil last = Check.council("1h;1h;1;1");
        check.due("h alone", last.ask(), 7);
        check.row("h alone", last, 2);
        HatAtCouncil all = Check.council("1ab;1ab;1ab");
        check.due("wanted by all or by none: the first", all.ask(), 0);
        check.row("wanted by all or by none", all, 3);
        HatAtCouncil one = Check.council("1h");
        check.due("one alone", one.ask(), 0);
        check.row("one alone", one, 1);
        HatAtCouncil eight = Check.council("1;1;1;1;1;1;1;1");
        check.due("eight alike", eight.ask(), 0);
        check.row("eight alike", eight, 8);
        eight.talk(7, 1, 0);
        eight.heard(3, 1);
        check.due("only who fits counts", eight.ask(), 0);
        check.row("only who fits counts", eight, 1);
    }

    /** 36: -2: none fits. */
    private static void askOfNone() {
        twins.refused("nobody there", x -> { }, HatAtCouncil::ask, -2);
        twins.refused("none fits", x -> {
            Twins.busy(x);
            x.heard(0, 7);
        }, HatAtCouncil::ask, -2);
    }

    // 37: law() (what it refuses is tested with rule())

    /** 37: an empty one: none. */
    private static void lawMayBeEmpty() {
        HatAtCouncil x = Check.council("3ab;1c");
        Check.rule(x, "b=1");
        check.due("by the rule", x.next(), 1);
        check.due("by none", Check.law(x, ""), 0);
        check.row("by none", x, 9, 4);
        check.due("the rule stays", x.next(), 1);
        HatAtCouncil eight = Check.council("1;2;3;4;5;6;7;8h");
        check.due("the last of eight", Check.law(eight, "-b"), 7);
        check.row("all of eight", eight, -1, -2, -3, -4, -5, -6, -7, -8);
    }

    /** 37: -2: a silence. */
    private static void lawOfASilence() {
        HatAtCouncil none = new HatAtCouncil();
        none.mute();
        check.due("nobody there", Check.law(none, "1"), -2);
        check.row("nobody there", none);
        HatAtCouncil x = Check.council("1a;2");
        x.talk(0, 0, 0);
        check.due("a silence", Check.law(x, "b*10+w"), -2);
        check.row("a silence", x, 10, 20);
    }

    /** 37: -10000 - p. */
    private static void lawThatCanNotBe() {
        twins.refusedText("at 0", x -> Twins.busyWith(x, "x"), HatAtCouncil::law, -10000);
        twins.refusedText("at 40", x -> Twins.busyWith(x, Check.times("-", 80)), HatAtCouncil::law, -10040);
        HatAtCouncil x = Check.council("1a");
        check.due("what is far below 0 is no answer", Check.law(x, "-999*999"), 0);
        check.row("but in the row", x, -998001);
    }

    // 38: rests()

    /** 38: v (0 .. 9). */
    private static void restsOfNoneToNine() {
        HatAtCouncil x = new HatAtCouncil();
        int[] pairs = {1, 14, 10, 10, 10, 10, 10, 10, 10, 10};
        for (int v = 0; v <= 9; v++) {
            check.due("rests " + v, x.rests(v), pairs[v]);
            check.row("rests " + v, x, 0, v < 2 ? 0 : 9);
        }
    }

    /** 38: NONE: another v. */
    private static void restsOfOthers() {
        int[] others = {-1, 10, GREATEST, LEAST};
        for (int v : others) {
            twins.refused("rests " + v, Twins::busy, x -> x.rests(v), -1);
        }
    }

    // 39: years()

    /** 39: n times (1 .. 60). */
    private static void yearsOfOneTo60() {
        HatAtCouncil x = Check.council("1a");
        x.midnight(1);
        int struck = 0;
        for (int n = 1; n <= 60; n++) {
            int now = x.years(12345, n);
            check.row("years " + n, x, -2, 0);
            check.due("one more at most by " + n, now == struck || now == struck + 1, true);
            struck = now;
        }
        check.due("half and more of 60", struck >= 30, true);
    }

    /** 39: NONE: another n. */
    private static void yearsOfOthers() {
        int[] others = {0, -1, 61, GREATEST, LEAST};
        for (int n : others) {
            twins.refused("years " + n, Twins::busy, x -> x.years(1, n), -1);
        }
    }

    /** R behind so many DRAWS. */
    private static int drawn(int seed, int draws) {
        int r = seed;
        for (int i = 0; i < draws; i++) {
            r = r * 1103515245 + 12345;
        }
        return r;
    }

    /** A seed by which the DRAWS (R without sign, by 65536) are, by their remainders, as told. */
    private static int seedOf(int[] of, int[] due) {
        for (int seed = 0; seed < 1000000; seed++) {
            boolean fits = true;
            for (int i = 0; i < of.length && fits; i++) {
                long r = drawn(seed, i + 1) & 0xFFFFFFFFL;
                fits = r / 65536 % of[i] == due[i];
            }
            if (fits) {
                return seed;
            }
        }
        throw new IllegalStateException("no such seed");
    }

    /** 39: no DRAWS without councillors. */
    private static void yearsOfNobody() {
        HatAtCouncil x = new HatAtCouncil();
        int sneezeThenTurn = seedOf(new int[] {4, 4}, new int[] {2, 1});
        check.due("a sneeze of nobody, a silence", x.years(sneezeThenTurn, 2), 0);
        check.row("a sneeze of nobody, a silence", x, -2, 1);
        int askThenTurns = seedOf(new int[] {4, 4, 4}, new int[] {3, 0, 1});
        check.due("a question of nobody, two silences", x.years(askThenTurns, 3), 0);
        check.row("a question of nobody, two silences", x, -2, 2);
        x.midnight(1);
        check.due("silences strike", x.years(askThenTurns, 3), 2);
        check.row("silences strike", x, -2, 0);
    }

    /** 39: 2, 3: if it can be. */
    private static void yearsOfWhatCanNotBe() {
        HatAtCouncil x = Check.council("1;1;1");
        int asksHimself = seedOf(new int[] {4, 3, 3}, new int[] {3, 1, 1});
        check.due("1 asks himself", x.years(asksHimself, 1), 0);
        check.row("1 asks himself", x, -2, 0);
        int asksTwice = seedOf(new int[] {4, 3, 3, 4, 3, 3}, new int[] {3, 0, 2, 3, 1, 2});
        check.due("0 asks 2, then 1 can't ask 2", x.years(asksTwice, 2), 0);
        check.row("0 asks 2, then 1 can't ask 2", x, 2, 1);
        int sneezesTwice = seedOf(new int[] {4, 3, 4, 3}, new int[] {2, 1, 2, 1});
        check.due("1 sneezes, and can't again", x.years(sneezesTwice, 2), 0);
        check.row("1 sneezes, and can't again", x, 1, 1);
        int sneezesThenAsks = seedOf(new int[] {4, 3, 4, 3, 3}, new int[] {2, 2, 3, 2, 0});
        check.due("2 sneezes, and can't ask", x.years(sneezesThenAsks, 2), 0);
        check.row("2 sneezes, and can't ask", x, 2, 1);
        x.midnight(1);
        check.due("it strikes twice", x.years(sneezesTwice, 2), 2);
        check.row("it strikes twice", x, -2, 0);
        int asks = seedOf(new int[] {4, 3, 3, 4, 3}, new int[] {3, 0, 2, 2, 0});
        x.midnight(2);
        check.due("0 asks 2, then sneezes as it strikes", x.years(asks, 2), 1);
        check.row("0 asks 2, then sneezes as it strikes", x, -2, 0);
    }

    /** 39: as ints; R without sign. */
    private static void yearsOfAnySeed() {
        int[] seeds = {0, 1, -1, GREATEST, LEAST, 0x40000000, 123456789, -987654321};
        for (int seed : seeds) {
            HatAtCouncil x = Check.council("1;1;1;1;1;1;1");
            x.midnight(60);
            int first = (drawn(seed, 1) >>> 16) % 4;
            int second = (drawn(seed, 2) >>> 16) % 7;
            int third = (drawn(seed, 3) >>> 16) % 7;
            int hat = first < 2 ? -2 : first == 2 ? second : second == third ? -2 : third;
            check.due("years by " + seed, x.years(seed, 1), 0);
            check.row("years by " + seed, x, hat, first == 3 && second == third ? 0 : 1);
        }
    }

    // 40: keep()

    /** 40: under a number 0 .. 2. */
    private static void keepOfThree() {
        HatAtCouncil x = new HatAtCouncil();
        for (int i = 0; i < 3; i++) {
            x.midnight(30 + i);
            check.due("keep " + i, x.keep(i), true);
        }
        x.midnight(50);
        for (int i = 2; i >= 0; i--) {
            check.due("again " + i, x.again(i), true);
            check.due("midnight", x.count(3), 30 + i);
        }
        x.midnight(40);
        x.keep(1);
        x.again(2);
        x.again(1);
        check.due("kept anew", x.count(3), 40);
        x.again(0);
        check.due("the others stay", x.count(3), 30);
    }

    /** 40: Refused: others. */
    private static void keepOfOthers() {
        int[] others = {-1, 3, 4, GREATEST, LEAST};
        for (int i : others) {
            twins.refused("keep " + i, Twins::busy, x -> x.keep(i) ? 1 : 0, 0);
        }
        HatAtCouncil x = new HatAtCouncil();
        Twins.busy(x);
        x.keep(0);
        check.due("keep leaves what can be undone", x.count(9), 6);
    }

    // 41: again()

    /** 41: Refused: nothing kept. */
    private static void againOfNothing() {
        for (int i = 0; i < 3; i++) {
            int number = i;
            twins.refused("nothing is kept under " + i, x -> x.turn(5), x -> x.again(number) ? 1 : 0, 0);
        }
        twins.refused("nothing is kept under 0", Twins::busy, x -> x.again(0) ? 1 : 0, 0);
    }

    private static void againOfOthers() {
        int[] others = {-1, 3, 4, GREATEST, LEAST};
        for (int i : others) {
            twins.refused("again " + i, Twins::busy, x -> x.again(i) ? 1 : 0, 0);
        }
    }

    /** 41: Refused: COUNCILLORS came since. */
    private static void againTillCouncillorsCome() {
        twins.refused("one came", x -> {
            Twins.busyWith(x, "1");
            x.council();
            x.turn(1);
        }, x -> x.again(1) ? 1 : 0, 0);
        HatAtCouncil x = Check.council("1a");
        x.keep(0);
        x.keep(1);
        Check.come(x, "");
        check.due("nobody came", x.again(0), true);
        Check.come(x, "0");
        check.due("he could not come", x.again(1), true);
        Check.come(x, "1b");
        x.keep(1);
        check.due("kept ahead of it", x.again(0), false);
        check.due("kept since", x.again(1), true);
        check.due("not kept", x.again(2), false);
        x.keep(0);
        check.due("kept anew", x.again(0), true);
    }

    /** 40: What undo() brings back (SAID, SPOKE, PAID, HAD, THE HAT, MINUTE, MIDNIGHT, EVENING, the latest talk). */
    private static void againBringsBackWhatUndoDoes() {
        HatAtCouncil x = new HatAtCouncil();
        Twins.busy(x);
        x.keep(0);
        x.midnight(6);
        x.talk(0, 0, 0);
        x.talk(0, 1, 0);
        x.heard(0, 0);
        Check.lengths(x, "99999999");
        Check.rule(x, "b");
        x.sheet(2, 3, 4, 1);
        check.due("again", x.again(0), true);
        long[] due = {3, 2, 5, 30, 1, 14, 6, 1, 3, 0};
        for (int what = 0; what < due.length; what++) {
            check.due("again: count " + what, x.count(what), due[what]);
        }
        check.due("who had the hat", x.vote(), 1);
        check.due("lengths stay", x.thing(0, 0), 9);
        check.due("breath stays", x.man(2, 0), 6);
        check.due("the rule stays", x.man(2, 6), 6);
        Check.lengths(x, "11111111");
        check.due("the latest talk", x.talk(0, 4, 0), 6);
        check.due("d is said no more", x.count(5), 7);
    }

    // 42: count()

    /** 42: who WEARS THE HAT (NONE). */
    private static void countOfNobody() {
        HatAtCouncil x = Check.council("1;1");
        check.due("nobody", x.count(1), -1);
        x.talk(0, 1, 0);
        check.due("0", x.count(1), 0);
        x.midnight(2);
        x.turn(1);
        check.due("nobody again", x.count(1), -1);
    }

    /** 42: -100 for another what. */
    private static void countOfOthers() {
        int[] others = {-1, 12, 13, 100, GREATEST, LEAST};
        for (int what : others) {
            twins.refused("count " + what, Twins::busy, x -> x.count(what), -100);
        }
        long[] due = {3, 2, 5, 30, 1, 14, 6, 1, 2, 6, 2, 8};
        for (int what = 0; what < due.length; what++) {
            int asked = what;
            twins.refused("count " + what, Twins::busy, x -> x.count(asked), due[what]);
        }
    }

    // 43: row()

    /** 43: NoSuchElementException: none such. */
    private static void rowOfNone() {
        int[] others = {-1, 2, 3, 127, 128, GREATEST, LEAST};
        for (int i : others) {
            twins.thrown("row " + i + " of 2", Twins::busy, x -> x.row(i));
        }
        twins.thrown("row 0 of none yet", x -> { }, x -> x.row(0));
        twins.thrown("row 0 of an empty one", x -> {
            x.mute();
            x.next();
        }, x -> x.row(0));
        twins.refused("row 0 of 2", Twins::busy, x -> x.row(0), 1);
        twins.refused("row 1 of 2", Twins::busy, x -> x.row(1), 3);
    }

    /** 43: Number i of the ROW, as a long. */
    private static void rowOfTheLongest() {
        HatAtCouncil x = Check.council("1abcdefgh;1");
        x.talk(0, 1, 0);
        x.order(255, 0);
        check.due("34 numbers", x.count(10), 34);
        check.due("the last", x.row(33), 8);
        check.thrown("none behind it", () -> x.row(34));
        x.silent(8, 2, 9, 8);
        check.due("a long", x.row(1), 10000000000000000L);
        check.thrown("a shorter row", () -> x.row(2));
    }
}
