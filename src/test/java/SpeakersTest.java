/** Promises 15 to 23: who speaks next, on whom it strikes, who pays, votes, is mute, alike, a rival. */
public final class SpeakersTest {
    private static final Check check = new Check();

    public static void main(String[] args) {
        next();
        ahead();
        strikes();
        pays();
        paysAtMost999Turns();
        vote();
        mute();
        when();
        alike();
        rivals();
        check.end();
    }

    /** What a question must leave alone. */
    private static long state(HatAtCouncil x) {
        long state = 0;
        for (int what = 0; what < 10; what++) {
            state = state * 31 + x.count(what);
        }
        return state;
    }

    private static void next() {
        HatAtCouncil x = Check.three();
        long before = state(x);
        check.due("next", x.next(), 2);
        check.row("next", x, 1, 15);
        check.due("nothing changes", state(x), before);
        x.turn(1);
        check.due("then", x.next(), 1);
        check.row("then", x, 0, 8);
        x.turn(2);
        check.due("a silence", x.next(), -2);
        check.row("a silence", x);
        HatAtCouncil y = Check.council("1a;2b;2c");
        check.due("of equal ones the first", y.next(), 1);
        check.row("of equal ones the first", y, 1, 5);
        Check.rule(y, "0-b");
        check.due("by another rule", y.next(), 0);
        check.row("by another rule", y, 0, -1);
    }

    private static void ahead() {
        HatAtCouncil x = Check.three();
        long before = state(x);
        check.due("ahead 0", x.ahead(0), -2);
        check.row("ahead 0", x, 0, 0);
        check.due("ahead 1", x.ahead(1), 2);
        check.row("ahead 1", x, 2, 3);
        check.due("ahead 2", x.ahead(2), 1);
        check.row("ahead 2", x, 3, 5);
        check.due("ahead 3", x.ahead(3), 2);
        check.row("ahead 3", x, 7, 6);
        check.due("ahead 16", x.ahead(16), 2);
        check.row("ahead 16", x, 7, 19);
        check.due("ahead 17", x.ahead(17), -2);
        check.row("ahead 17", x, 0, 0);
        check.due("ahead -1", x.ahead(-1), -1);
        check.due("ahead 100", x.ahead(100), -1);
        check.row("refused", x, 0, 0);
        check.due("nothing changes", state(x), before);
        HatAtCouncil y = new HatAtCouncil();
        check.due("ahead 99", y.ahead(99), -2);
        check.row("ahead 99", y, 0, 19);
    }

    private static void strikes() {
        HatAtCouncil x = Check.three();
        long before = state(x);
        check.due("strikes", x.strikes(), 17);
        check.row("strikes", x, 2, 7);
        check.due("nothing changes", state(x), before);
        x.midnight(5);
        check.due("by talk", x.strikes(), 2);
        check.row("by talk, with what is said then", x, 1, 3);
        x.midnight(1);
        check.due("at once", x.strikes(), 1);
        check.row("at once", x, 2, 2);
        HatAtCouncil y = new HatAtCouncil();
        y.midnight(60);
        check.due("nobody", y.strikes(), 60);
        check.row("nobody", y, -2, 0);
    }

    private static void pays() {
        HatAtCouncil x = Check.three();
        long before = state(x);
        check.due("pays", x.pays(1), 2);
        check.row("pays", x, 0, 0, 1);
        check.due("pays twice", x.pays(2), 2);
        check.row("pays twice", x, 0, 0, 2);
        check.due("nothing changes", state(x), before);
        check.due("pays 0", x.pays(0), -1);
        check.due("pays 21", x.pays(21), -1);
        check.row("refused", x, 0, 0, 2);
        check.due("nobody there", new HatAtCouncil().pays(1), -2);
        check.due("nobody there, another n", new HatAtCouncil().pays(21), -1);
        HatAtCouncil y = Check.council("1a;1a");
        y.midnight(1);
        y.turn(1);
        check.due("by turns, only what grows", y.pays(1), 1);
        check.row("by turns", y, 0, 1);
        check.due("of equal ones the first", y.pays(2), 0);
        check.row("of equal ones the first", y, 1, 1);
        Check.rule(y, "0");
        y.talk(1, 1, 0);
        y.talk(1, 1, 0);
        check.due("what was paid does not count", y.pays(1), 0);
        check.row("what was paid does not count", y, 1, 0);
        HatAtCouncil z = Check.council("1;1");
        check.due("nobody pays", z.pays(20), 0);
        check.row("nobody pays", z, 0, 0);
    }

    private static void paysAtMost999Turns() {
        HatAtCouncil x = Check.council("1a");
        x.midnight(60);
        check.due("16 evenings of 60 turns", x.pays(16), 0);
        check.row("16 evenings of 60 turns", x, 16);
        x.pays(20);
        check.row("no more than 999 turns", x, 16);
        x.midnight(50);
        x.pays(20);
        check.row("the 1000th turn would strike", x, 19);
        x.midnight(49);
        x.pays(20);
        check.row("980 turns", x, 20);
        x.midnight(50);
        x.turn(1);
        x.pays(20);
        check.row("49 turns and 19 times 50", x, 20);
    }

    private static void vote() {
        HatAtCouncil x = Check.three();
        check.due("all", x.vote(), 7);
        check.row("all", x, 3, 7);
        x.talk(0, 2, 2);
        check.due("who was asked had it", x.vote(), 3);
        check.row("who was asked had it", x, 2, 7);
        x.talk(1, 1, 0);
        check.due("one is left", x.vote(), 1);
        check.row("one is left", x, 1, 3);
        x.midnight(3);
        x.turn(1);
        check.due("that goes beyond midnight", x.vote(), 1);
        x.talk(0, 1, 0);
        check.due("none", x.vote(), 0);
        check.row("none", x, 0, 0);
    }

    private static void mute() {
        HatAtCouncil x = Check.three();
        check.due("unwanted", x.mute(), 248);
        check.row("unwanted", x, 248);
        x.sheet(2, 3, 2, 0);
        check.due("b is too long", x.mute(), 250);
        check.row("b is wanted", x, 248);
        x.sheet(2, 3, 3, 0);
        x.talk(0, 0, 1);
        x.sheet(2, 3, 2, 0);
        check.due("b is said", x.mute(), 248);
        check.due("who wears the hat could", x.man(0, 5), 0);
        HatAtCouncil y = Check.council("1b;1c");
        check.due("two could", y.mute(), 249);
        check.row("two could", y, 249);
        HatAtCouncil nobody = new HatAtCouncil();
        check.due("nobody there", nobody.mute(), 255);
        check.row("nobody there", nobody, 255);
    }

    private static void when() {
        HatAtCouncil x = Check.three();
        long before = state(x);
        check.due("nothing", x.when(0), 0);
        check.row("nothing", x, 0, -2);
        check.due("b", x.when(2), 1);
        check.row("b", x, 3, 2);
        check.due("a", x.when(1), 2);
        check.row("a", x, 5, 1);
        check.due("all", x.when(7), 3);
        check.row("all", x, 6, 2);
        check.due("never", x.when(15), -2);
        check.due("other bits", x.when(256), -1);
        check.due("below", x.when(-1), -1);
        check.row("the row stays", x, 6, 2);
        check.due("nothing changes", state(x), before);
        x.turn(2);
        check.due("said already", x.when(3), 0);
        check.row("said already", x, 5, 1);
        x.undo();
        x.midnight(6);
        check.due("it strikes as all is said, which then is not", x.when(7), -2);
        HatAtCouncil y = Check.council("2a;1b");
        y.midnight(2);
        // 0 begins 49 evenings of two turns, then 1 does
        Check.rule(y, "b-(t>48)*b*2");
        check.due("99 turns", y.when(2), 99);
        check.row("99 turns", y, 1, 1);
        Check.rule(y, "b-(t>49)*b*2");
        check.due("101 turns are too many", y.when(2), -2);
    }

    private static void alike() {
        HatAtCouncil x = Check.three();
        check.due("alike", x.alike(0, 1), 1);
        check.row("alike", x, 2, 4);
        check.due("the other way", x.alike(2, 0), 2);
        check.row("the other way", x, 4, 1);
        x.talk(2, 0, 1);
        check.due("said or not", x.alike(2, 0), 2);
        x.sheet(2, 3, 2, 0);
        check.due("too long", x.alike(2, 0), 0);
        check.row("too long", x, 4, 1);
        check.due("like ones", x.alike(1, 1), -1);
        check.due("none such", x.alike(0, 3), -1);
        check.due("none such first", x.alike(-1, 0), -1);
        check.row("refused", x, 4, 1);
    }

    private static void rivals() {
        HatAtCouncil x = Check.three();
        check.due("one thing each: the least row", x.rivals(), 1);
        check.row("the least row", x, 0, 1, 1);
        x.talk(0, 0, 0);
        check.due("a is said", x.rivals(), 1);
        check.row("a is said", x, 0, 2, 2);
        x.talk(2, 0, 1);
        check.due("b is said", x.rivals(), 1);
        check.row("b is said", x, 1, 2, 4);
        x.talk(1, 0, 2);
        check.due("all said", x.rivals(), 0);
        check.row("all said", x, 0, 1, 0);
        HatAtCouncil y = Check.council("1a;1abc;1;1bcd");
        check.due("more", y.rivals(), 2);
        check.row("more", y, 1, 3, 6);
        HatAtCouncil two = Check.council("1ab;1b");
        check.due("just two", two.rivals(), 1);
        check.row("just two", two, 0, 1, 2);
        check.due("fewer than two", Check.council("1a").rivals(), -2);
        check.due("none", new HatAtCouncil().rivals(), -2);
    }
}
