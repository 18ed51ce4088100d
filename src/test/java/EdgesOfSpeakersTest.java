/** The edges that promises 15 to 23 name, sentence by sentence: who speaks, on whom it strikes. */
public final class EdgesOfSpeakersTest {
    private static final Check check = new Check();
    private static final Twins twins = new Twins(check);
    private static final int LEAST = Integer.MIN_VALUE;
    private static final int GREATEST = Integer.MAX_VALUE;

    public static void main(String[] args) {
        questionsChangeNothing();
        nextOfASilence();
        nextOfEqualOnes();
        aheadOfNoneTo99();
        aheadOfOthers();
        strikesFromOneTo60();
        strikesOnWhom();
        strikesWithWhatIsSaid();
        paysInOneToTwentyEvenings();
        paysInAtMost999Turns();
        paysOfEqualOnes();
        paysOfNobody();
        paysOfOthers();
        votesOfAllOrNone();
        muteByBreath();
        muteOfSaidThings();
        whenIsNow();
        whenIsUpTo99();
        whenItStrikes();
        whenOfOthers();
        alikeByBreath();
        alikeOfOthers();
        rivalsOfFewerThanTwo();
        rivalsOfAsMany();
        check.end();
    }

    /** Terms 2: Questions change nothing. */
    private static void questionsChangeNothing() {
        twins.question("next", Twins::busy, HatAtCouncil::next, 0);
        twins.question("ahead", Twins::busy, x -> x.ahead(99), 2);
        twins.question("strikes", Twins::busy, HatAtCouncil::strikes, 24);
        twins.question("pays", Twins::busy, x -> x.pays(20), 2);
        twins.question("vote", Twins::busy, HatAtCouncil::vote, 1);
        twins.question("mute", Twins::busy, HatAtCouncil::mute, 240);
        twins.question("when", Twins::busy, x -> x.when(1), 1);
        twins.question("alike", Twins::busy, x -> x.alike(0, 2), 2);
        twins.question("rivals", Twins::busy, HatAtCouncil::rivals, 1);
    }

    // 15: next()

    /** 15: -2: a silence; the ROW: nothing for a silence. */
    private static void nextOfASilence() {
        HatAtCouncil none = new HatAtCouncil();
        none.mute();
        check.due("nobody there", none.next(), -2);
        check.row("nobody there", none);
        HatAtCouncil x = Check.council("1a");
        check.due("0", x.next(), 0);
        check.row("0", x, 0, 4);
        x.turn(1);
        check.due("a silence", x.next(), -2);
        check.row("a silence", x);
        HatAtCouncil hat = Check.council("1a");
        hat.talk(0, 1, 0);
        check.due("who could wears the hat", hat.next(), -2);
        check.row("who could wears the hat", hat);
        HatAtCouncil breath = Check.council("1a");
        Check.lengths(breath, "21111111");
        check.due("who could is short of breath", breath.next(), -2);
        check.row("who could is short of breath", breath);
    }

    /** Terms 1: of equal ones the first; the first THING that it CAN SAY. */
    private static void nextOfEqualOnes() {
        HatAtCouncil x = Check.council("9;1gh;1ah;1a");
        Check.rule(x, "-7");
        check.due("the first of equal ones", x.next(), 1);
        check.row("the first of equal ones", x, 6, -7);
        x.talk(1, 1, 0);
        check.due("the first but him", x.next(), 2);
        check.row("the first but him", x, 0, -7);
    }

    // 16: ahead()

    /** 16: in n TURNS (0 .. 99). */
    private static void aheadOfNoneTo99() {
        HatAtCouncil x = Check.council("1a");
        for (int n = 0; n <= 99; n++) {
            check.due("ahead " + n, x.ahead(n), n % 20 == 0 ? -2 : 0);
            check.row("ahead " + n, x, n % 20 == 0 ? 0 : 1, n % 20);
        }
        HatAtCouncil busy = new HatAtCouncil();
        Twins.busy(busy);
        check.due("now", busy.ahead(0), 2);
        check.row("now", busy, 14, 5);
    }

    /** 16: NONE: another n. */
    private static void aheadOfOthers() {
        int[] others = {-1, 100, 101, GREATEST, LEAST};
        for (int n : others) {
            twins.refused("ahead " + n, Twins::busy, x -> x.ahead(n), -1);
        }
    }

    // 17: strikes()

    /** 17: In how many TURNS IT STRIKES first (1 .. 99). */
    private static void strikesFromOneTo60() {
        HatAtCouncil x = new HatAtCouncil();
        for (int v = 1; v <= 60; v++) {
            x.midnight(v);
            check.due("strikes by " + v, x.strikes(), v);
            check.row("nobody pays", x, -2, 0);
        }
        x.turn(59);
        check.due("in one", x.strikes(), 1);
        HatAtCouncil y = Check.council("9a");
        Check.lengths(y, "91111111");
        y.midnight(9);
        check.due("talk till midnight", y.strikes(), 1);
        y.midnight(8);
        check.due("talk beyond midnight", y.strikes(), 1);
        y.midnight(10);
        check.due("talk and a silence", y.strikes(), 2);
    }

    /** 17: who pays then (-2: nobody). */
    private static void strikesOnWhom() {
        HatAtCouncil x = Check.council("1;2b");
        x.midnight(1);
        x.strikes();
        check.row("who talks pays", x, 1, 2);
        x.midnight(2);
        x.strikes();
        check.row("who wears it in a silence pays", x, 1, 2);
        x.turn(1);
        x.strikes();
        check.row("who wears it now pays", x, 1, 2);
        x.talk(0, 1, 0);
        x.midnight(9);
        x.sheet(3, 0, 0, 0);
        Check.lengths(x, "12111111");
        x.strikes();
        check.row("nobody wears it", x, -2, 0);
    }

    /** 17: SAID ahead of it (with what is said as IT STRIKES). */
    private static void strikesWithWhatIsSaid() {
        HatAtCouncil x = Check.council("1a;1b");
        x.midnight(2);
        check.due("two talks", x.strikes(), 2);
        check.row("two talks", x, 1, 3);
        x.midnight(3);
        check.due("and a silence", x.strikes(), 3);
        check.row("and a silence", x, 1, 3);
        x.midnight(1);
        check.due("one talk", x.strikes(), 1);
        check.row("one talk", x, 0, 1);
    }

    // 18: pays()

    /** 18: till IT STRUCK n times (1 .. 20). */
    private static void paysInOneToTwentyEvenings() {
        HatAtCouncil x = Check.council("1;1a");
        x.midnight(3);
        for (int n = 1; n <= 20; n++) {
            check.due("pays " + n, x.pays(n), 1);
            check.row("pays " + n, x, 0, n);
        }
        x.turn(2);
        x.pays(1);
        check.row("this evening is the first", x, 0, 1);
    }

    /** 18: 999 TURNS at most. */
    private static void paysInAtMost999Turns() {
        HatAtCouncil x = Check.council("1a");
        x.midnight(53);
        x.turn(8);
        check.due("45 and 18 times 53 are 999 turns", x.pays(19), 0);
        check.row("999 turns", x, 19);
        x.undo();
        x.turn(7);
        check.due("46 and 18 times 53 are 1000 turns", x.pays(19), 0);
        check.row("1000 turns", x, 18);
    }

    /** 18: of equal ones the first. */
    private static void paysOfEqualOnes() {
        HatAtCouncil x = Check.council("1;1a;1a");
        x.midnight(1);
        check.due("1 pays, then 2", x.pays(2), 1);
        check.row("1 pays, then 2", x, 0, 1, 1);
        x.turn(1);
        check.due("2 pays, then 1", x.pays(2), 1);
        check.row("2 pays, then 1", x, 0, 1, 1);
        check.due("2 pays", x.pays(1), 2);
        check.row("2 pays", x, 0, 0, 1);
        HatAtCouncil eight = Check.council("1;1;1;1;1;1;1;1h");
        check.due("the last of eight", eight.pays(20), 7);
        check.row("the last of eight", eight, 0, 0, 0, 0, 0, 0, 0, 20);
        HatAtCouncil none = Check.council("1;1;1");
        check.due("nobody pays", none.pays(20), 0);
        check.row("nobody pays", none, 0, 0, 0);
    }

    /** 18: -2: there are no councillors. */
    private static void paysOfNobody() {
        for (int n = 1; n <= 20; n++) {
            int times = n;
            twins.refused("pays " + n + " of nobody", x -> { }, x -> x.pays(times), -2);
        }
    }

    /** 18: NONE: another n. */
    private static void paysOfOthers() {
        int[] others = {0, -1, 21, 999, GREATEST, LEAST};
        for (int n : others) {
            twins.refused("pays " + n, Twins::busy, x -> x.pays(n), -1);
            twins.refused("pays " + n + " of nobody", x -> { }, x -> x.pays(n), -1);
        }
    }

    // 19: vote()

    private static void votesOfAllOrNone() {
        HatAtCouncil none = new HatAtCouncil();
        check.due("nobody there", none.vote(), 0);
        check.row("nobody there", none, 0, 0);
        HatAtCouncil x = Check.council("1a;1;1b;1;1c;1;1d;1h");
        check.due("all eight", x.vote(), 255);
        check.row("all eight", x, 8, 143);
        for (int man = 0; man < 8; man++) {
            x.talk(man, 1, 0);
            check.due("without " + man, x.vote(), 255 & ~((2 << man) - 1));
            check.due("how many", x.row(0), 7 - man);
        }
        check.row("none", x, 0, 0);
    }

    // 20: mute()

    /** 20: by WANTS, BREATH alone. */
    private static void muteByBreath() {
        HatAtCouncil x = Check.council("3ah;2b");
        Check.lengths(x, "32111114");
        check.due("a and b are just short enough", x.mute(), 252);
        check.row("h is too long, but wanted", x, 124);
        Check.lengths(x, "43111113");
        check.due("a and b are just too long", x.mute(), 127);
        check.row("but wanted", x, 124);
        x.talk(0, 1, 0);
        check.due("who wears the hat could", x.mute(), 127);
        HatAtCouncil all = Check.council("9abcdefgh");
        Check.lengths(all, "99999999");
        check.due("none", all.mute(), 0);
        check.row("none", all, 0);
        HatAtCouncil none = new HatAtCouncil();
        check.due("nobody there", none.mute(), 255);
        check.row("nobody there", none, 255);
        Check.come(none, "9abcdefgh;0");
        check.due("who did not come wants nothing", none.mute(), 255);
        check.row("who did not come wants nothing", none, 255);
        HatAtCouncil eight = Check.council("1a;1;1;1;1;1;1;1h");
        check.due("the first and the last of eight", eight.mute(), 126);
        check.row("the first and the last of eight", eight, 126);
    }

    /** 20: THINGS not SAID. */
    private static void muteOfSaidThings() {
        HatAtCouncil x = Check.council("2a;1");
        Check.lengths(x, "21111111");
        x.talk(0, 0, 0);
        x.sheet(3, 0, 0, 0);
        check.due("a is said", x.mute(), 254);
        check.row("a is said", x, 254);
    }

    // 21: when()

    /** 21: 0: now. */
    private static void whenIsNow() {
        HatAtCouncil x = new HatAtCouncil();
        Twins.busy(x);
        int[] sets = {0, 2, 4, 8, 14};
        for (int things : sets) {
            check.due("when " + things, x.when(things), 0);
            check.row("when " + things, x, 5, 2);
        }
        check.due("nothing of nobody", new HatAtCouncil().when(0), 0);
    }

    /** The first one of two begins each evening of two turns, till it spoke so often. */
    private static void waits(HatAtCouncil x, int times) {
        Check.come(x, "2a;1b");
        x.midnight(2);
        Check.rule(x, "b-(t>" + (times - 1) + ")*b*2");
    }

    /** 21: In how many TURNS (0: now .. 99); -2: in none of these. */
    private static void whenIsUpTo99() {
        HatAtCouncil x = new HatAtCouncil();
        waits(x, 49);
        check.due("49 evenings of two turns, and one", x.when(2), 99);
        check.row("99 turns", x, 1, 1);
        HatAtCouncil y = new HatAtCouncil();
        waits(y, 50);
        y.talk(0, 1, 0);
        twins.refused("one turn, 49 evenings of two, and one", z -> {
            waits(z, 50);
            z.talk(0, 1, 0);
            z.vote();
        }, z -> z.when(2), -2);
        Check.rule(y, "b-(t>48)*b*2");
        check.due("one turn, 48 evenings of two, and one", y.when(2), 98);
        check.row("98 turns", y, 1, 1);
        twins.refused("never", Twins::busy, z -> z.when(16), -2);
        twins.refused("never all", Twins::busy, z -> z.when(255), -2);
        HatAtCouncil all = Check.council("1abcdefgh;1abcdefgh");
        check.due("all", all.when(255), 8);
        check.row("all", all, 8, 1);
    }

    /** Terms 1: IT STRIKES: SAID is none. */
    private static void whenItStrikes() {
        HatAtCouncil x = Check.council("1a;1b");
        x.midnight(2);
        check.due("both are never said behind a turn", x.when(3), -2);
        check.due("a is", x.when(1), 1);
        x.midnight(3);
        check.due("both are", x.when(3), 2);
        check.row("both are", x, 2, 1);
    }

    /** 21: NONE: other bits. */
    private static void whenOfOthers() {
        int[] others = {-1, 256, 257, 511, GREATEST, LEAST};
        for (int things : others) {
            twins.refused("when " + things, Twins::busy, x -> x.when(things), -1);
        }
    }

    // 22: alike()

    /** 22: by WANTS, BREATH alone. */
    private static void alikeByBreath() {
        HatAtCouncil x = Check.council("3abh;2abh");
        Check.lengths(x, "23111114");
        check.due("a is short enough for both", x.alike(0, 1), 1);
        check.row("b for the first one", x, 2, 0);
        check.due("the other way", x.alike(1, 0), 1);
        check.row("the other way", x, 0, 2);
        x.talk(0, 0, 0);
        check.due("said, and with the hat", x.alike(0, 1), 1);
        HatAtCouncil all = Check.council("1abcdefgh;1abcdefgh");
        check.due("all", all.alike(0, 1), 255);
        check.row("all", all, 0, 0);
    }

    /** 22: NONE: none such, like ones. */
    private static void alikeOfOthers() {
        int[][] others = {{-1, 0}, {0, -1}, {3, 0}, {0, 3}, {8, 9}, {0, 0}, {2, 2}, {-1, -1}, {3, 3},
            {GREATEST, 0}, {0, LEAST}};
        for (int[] o : others) {
            twins.refused("alike " + o[0] + " " + o[1], Twins::busy, x -> x.alike(o[0], o[1]), -1);
        }
        twins.refused("alike of nobody", x -> { }, x -> x.alike(0, 1), -1);
        HatAtCouncil x = Check.council("1;1;1;1;1;1;1;1");
        check.due("the last two", x.alike(6, 7), 0);
        check.row("the last two", x, 0, 0);
    }

    // 23: rivals()

    /** 23: -2: there are fewer than two. */
    private static void rivalsOfFewerThanTwo() {
        twins.refused("none", x -> { }, HatAtCouncil::rivals, -2);
        twins.refused("one", x -> Check.come(x, "1a"), HatAtCouncil::rivals, -2);
        HatAtCouncil x = Check.council("1;1");
        check.due("two who want nothing", x.rivals(), 0);
        check.row("two who want nothing", x, 0, 1, 0);
    }

    /** 23: the lesser first (of as many the least row). */
    private static void rivalsOfAsMany() {
        HatAtCouncil x = Check.council("1;1a;1b;1ab;1ab;1ab");
        check.due("two things", x.rivals(), 2);
        check.row("the first such two", x, 3, 4, 3);
        HatAtCouncil y = Check.council("1a;1b;1b;1a");
        check.due("one thing", y.rivals(), 1);
        check.row("by councillors, not by things", y, 0, 3, 1);
        Check.lengths(y, "21111111");
        y.rivals();
        check.row("a is too long", y, 1, 2, 2);
        y.talk(1, 0, 1);
        check.due("b is said", y.rivals(), 0);
        check.row("none: the least row", y, 0, 1, 0);
        HatAtCouncil eight = Check.council("1;1;1;1;1;1;1h;1h");
        check.due("the last two", eight.rivals(), 1);
        check.row("the last two", eight, 6, 7, 128);
    }
}
