/** The edges that the terms and promises 10 to 14 name, sentence by sentence: talk, turns, midnights, undone. */
public final class EdgesOfTalkTest {
    private static final Check check = new Check();
    private static final Twins twins = new Twins(check);
    private static final int LEAST = Integer.MIN_VALUE;
    private static final int GREATEST = Integer.MAX_VALUE;

    public static void main(String[] args) {
        breathIsEnoughOrNot();
        whoWearsTheHatCanSayNothing();
        whatIsSaidCanNotBeSaid();
        plainTakesItsLength();
        oneBreathIsRoundedUp();
        oneBreathHasANextOne();
        cuttingInIsRoundedUp();
        cuttingInNeedsPlainTalk();
        cuttingInNeedsThisEvening();
        cuttingInGoesThroughSilences();
        questionsGoToAnother();
        sneezesOfWhatever();
        midnightStrikesAtItOrLater();
        midnightStrikesOnNobody();
        spokeAndPaidStayAt999();
        talkOfNobody();
        talkWithTheHat();
        talkThatCanNotBe();
        turnOfNoneTo60();
        turnOfOthers();
        turnOfEqualOnes();
        turnOfASilence();
        midnightFromOneTo60();
        midnightIsMoreThanMinute();
        midnightOfOthers();
        eveningMayBeEmpty();
        eveningOfDigits();
        eveningIsDoneTillOneIsRefused();
        eveningEndsTooEarly();
        eveningHasABadSign();
        eveningTakes60Signs();
        undoOfNone();
        undoOfFifteen();
        undoOfWhatWasDone();
        undoOfEvenings();
        undoIsForgotten();
        check.end();
    }

    /** Terms 1: LENGTH is no more than its BREATH. */
    private static void breathIsEnoughOrNot() {
        for (int breath = 1; breath <= 9; breath++) {
            HatAtCouncil x = Check.council(breath + "a;9");
            Check.lengths(x, breath + "1111111");
            check.due("length " + breath + " can be said", x.man(0, 5), 1);
            check.due("by 0", x.thing(0, 2), 1);
            if (breath < 9) {
                Check.lengths(x, breath + 1 + "1111111");
                check.due("one more can't", x.man(0, 5), 0);
                check.due("by nobody", x.thing(0, 2), 0);
                check.due("nor talk of it", x.talk(0, 0, 0), -3);
                Check.lengths(x, breath + "1111111");
            }
            check.due("talk of it", x.talk(0, 0, 0), breath);
        }
    }

    /** Terms 1: it does not WEAR THE HAT. */
    private static void whoWearsTheHatCanSayNothing() {
        HatAtCouncil x = Check.council("1abc;1ab");
        x.talk(0, 0, 0);
        check.due("nothing of a, b, c", x.man(0, 5), 0);
        check.due("b alone", x.man(1, 5), 2);
        check.due("b by 1 alone", x.thing(1, 2), 2);
        x.talk(1, 1, 0);
        check.due("b and c again", x.man(0, 5), 6);
    }

    /** Terms 1: it is not SAID. */
    private static void whatIsSaidCanNotBeSaid() {
        HatAtCouncil x = Check.council("1a;1a;1ah");
        x.talk(0, 0, 0);
        check.due("a is said", x.talk(1, 0, 0), -3);
        check.due("h is not", x.talk(2, 0, 7), 2);
        check.due("a and h", x.count(5), 129);
    }

    private static void plainTakesItsLength() {
        for (int length = 1; length <= 9; length++) {
            HatAtCouncil x = Check.council("9h");
            Check.lengths(x, "1111111" + length);
            check.due("plain of " + length, x.talk(0, 0, 7), length);
            check.due("it is said", x.count(5), 128);
        }
    }

    /** Terms 1: half of both LENGTHS together, rounded up. */
    private static void oneBreathIsRoundedUp() {
        String[] lengths = {"11", "12", "13", "22", "89", "98", "99"};
        int[] due = {1, 2, 2, 2, 9, 9, 9};
        for (int i = 0; i < due.length; i++) {
            HatAtCouncil x = Check.council("9ab");
            Check.lengths(x, lengths[i] + "555555");
            check.due("in one breath " + lengths[i], x.talk(0, 3, 0), due[i]);
            check.due("both are said", x.count(5), 3);
        }
    }

    /** Terms 1: a THING and the next one (both of which it CAN SAY). */
    private static void oneBreathHasANextOne() {
        HatAtCouncil x = Check.council("5abdgh;5abcdefgh");
        Check.lengths(x, "16111151");
        twins.refused("b is too long", y -> copyOf(y), y -> y.talk(0, 3, 0), -3);
        twins.refused("too long first", y -> copyOf(y), y -> y.talk(1, 3, 1), -3);
        twins.refused("c is not wanted", y -> copyOf(y), y -> y.talk(0, 3, 2), -3);
        twins.refused("e is not wanted", y -> copyOf(y), y -> y.talk(0, 3, 3), -3);
        twins.refused("there is none behind h", y -> copyOf(y), y -> y.talk(0, 3, 7), -3);
        twins.refused("there is none ahead of a", y -> copyOf(y), y -> y.talk(0, 3, -1), -3);
        check.due("g and h are the last ones", x.talk(0, 3, 6), 3);
        check.due("both are said", x.count(5), 192);
        check.due("the first one is said", x.talk(1, 3, 6), -3);
        check.due("the next one is said", x.talk(1, 3, 5), -3);
    }

    private static void copyOf(HatAtCouncil x) {
        Check.come(x, "5abdgh;5abcdefgh");
        Check.lengths(x, "16111151");
    }

    /** Terms 1: half of LENGTH, rounded up. */
    private static void cuttingInIsRoundedUp() {
        for (int length = 1; length <= 9; length++) {
            HatAtCouncil x = Check.council("9b;9a");
            Check.lengths(x, length + "1111111");
            x.talk(0, 0, 1);
            check.due("cutting in by " + length, x.talk(1, 4, 0), 1 + (length + 1) / 2);
            check.due("a is said, b no more", x.count(5), 1);
        }
    }

    private static void pair(HatAtCouncil x) {
        Check.come(x, "9abcd;9abcd;9");
    }

    /** Terms 1: if the latest talk was plain, and by another one. */
    private static void cuttingInNeedsPlainTalk() {
        twins.refused("nobody has talked", x -> pair(x), x -> x.talk(0, 4, 0), -3);
        int[][] latest = {{1, 1, 0}, {1, 2, 2}, {1, 3, 0}};
        for (int[] talk : latest) {
            twins.refused("not on kind " + talk[1], x -> {
                pair(x);
                x.talk(0, 0, 2);
                x.talk(talk[0], talk[1], talk[2]);
            }, x -> x.talk(0, 4, 3), -3);
        }
        twins.refused("not on one who cut in", x -> {
            pair(x);
            x.talk(1, 0, 0);
            x.talk(0, 4, 1);
        }, x -> x.talk(0, 4, 2), -3);
        twins.refused("not on himself, who wears the hat", x -> {
            pair(x);
            x.talk(0, 0, 0);
        }, x -> x.talk(0, 4, 1), -2);
        twins.refused("a thing that is said", x -> {
            pair(x);
            x.talk(0, 0, 0);
        }, x -> x.talk(1, 4, 0), -3);
        twins.refused("a thing that it does not want", x -> {
            pair(x);
            x.talk(0, 0, 0);
        }, x -> x.talk(1, 4, 4), -3);
        twins.refused("no such thing", x -> {
            pair(x);
            x.talk(0, 0, 0);
        }, x -> x.talk(1, 4, 8), -3);
        HatAtCouncil x = Check.council("9abcd;9abcd;9");
        x.turn(1);
        check.due("on what came by itself", x.talk(1, 4, 3), 2);
        check.due("d is said, a no more", x.count(5), 8);
        check.due("0 wears the hat", x.count(1), 0);
    }

    /** Terms 1: the latest talk of this EVENING. */
    private static void cuttingInNeedsThisEvening() {
        twins.refused("plain talk that struck", x -> {
            pair(x);
            x.midnight(1);
            x.talk(0, 0, 0);
            x.midnight(20);
        }, x -> x.talk(1, 4, 1), -3);
        twins.refused("plain talk ahead of a silence that struck", x -> {
            Check.come(x, "9a;9b");
            Check.lengths(x, "11111111");
            x.midnight(2);
            x.talk(0, 0, 0);
            x.sheet(2, 2, 1, 0);
            Check.lengths(x, "19111111");
            x.turn(1);
            x.sheet(2, 2, 9, 0);
            x.midnight(20);
        }, x -> x.talk(1, 4, 1), -3);
        HatAtCouncil x = Check.council("9abcd;9abcd");
        x.midnight(2);
        x.talk(0, 0, 0);
        check.due("cutting in strikes", x.talk(1, 4, 1), 0);
        check.due("who was cut in on pays", x.man(0, 3), 1);
        check.due("not who cut in", x.man(1, 3), 0);
    }

    /** Terms 1: a silence: what the latest talk was stays. */
    private static void cuttingInGoesThroughSilences() {
        HatAtCouncil x = Check.council("9a;1b");
        Check.lengths(x, "12111111");
        x.talk(0, 0, 0);
        check.due("silences", x.turn(3), 0);
        check.row("silences", x, 0, 3);
        x.midnight(60);
        x.sheet(2, 2, 9, 0);
        check.due("cutting in behind them", x.talk(1, 4, 1), 5);
        check.due("b is said, a no more", x.count(5), 2);
    }

    /** Terms 1: a question to another one, who does not WEAR THE HAT. */
    private static void questionsGoToAnother() {
        int[] asked = {0, 1, 3, 8, -1, -2, GREATEST, LEAST};
        for (int what : asked) {
            twins.refused("0 asks " + what, x -> {
                pair(x);
                x.talk(1, 1, 0);
            }, x -> x.talk(0, 2, what), -3);
        }
        HatAtCouncil x = Check.council("1;1;1");
        check.due("0 asks the last", x.talk(0, 2, 2), 1);
        check.due("who wears the hat", x.count(1), 2);
        check.due("0 asks the one between", x.talk(0, 2, 1), 2);
        check.due("the last asks the first", x.talk(2, 2, 0), 3);
        twins.refused("nobody to ask", y -> Check.come(y, "1"), y -> y.talk(0, 2, 0), -3);
        twins.refused("nobody else to ask", y -> Check.come(y, "1"), y -> y.talk(0, 2, 1), -3);
    }

    /** 10: of what: whatever (1). */
    private static void sneezesOfWhatever() {
        int[] whats = {0, 7, 8, -1, GREATEST, LEAST};
        for (int what : whats) {
            HatAtCouncil x = Check.council("1");
            check.due("a sneeze of " + what, x.talk(0, 1, what), 1);
            check.due("nothing is said", x.count(5), 0);
        }
    }

    /** Terms 1: if it is MIDNIGHT or more then, IT STRIKES. */
    private static void midnightStrikesAtItOrLater() {
        for (int length = 1; length <= 9; length++) {
            HatAtCouncil x = Check.council("9;9a");
            Check.lengths(x, length + "1111111");
            x.talk(0, 1, 0);
            x.midnight(5);
            int minute = x.talk(1, 0, 0);
            boolean strikes = 1 + length >= 5;
            check.due("minute behind " + length, minute, strikes ? 0 : 1 + length);
            check.due("evening behind " + length, x.count(4), strikes ? 1 : 0);
            check.due("hat behind " + length, x.count(1), strikes ? -1 : 1);
            check.due("said behind " + length, x.count(5), strikes ? 0 : 1);
            check.due("paid behind " + length, x.man(1, 3), strikes ? 1 : 0);
            check.due("the other one pays nothing", x.man(0, 3), 0);
            check.due("midnight stays", x.count(3), 5);
            check.due("it spoke", x.man(1, 2), 1);
            check.due("it had the hat", x.man(1, 4), 1);
        }
        HatAtCouncil x = Check.council("1;1");
        x.midnight(60);
        for (int i = 1; i <= 59; i++) {
            check.due("minute " + i, x.talk(i % 2, 1, 0), i);
        }
        check.due("minute 60", x.talk(0, 1, 0), 0);
    }

    /** Terms 1: of nobody: nothing. */
    private static void midnightStrikesOnNobody() {
        HatAtCouncil x = Check.council("1;1");
        x.midnight(3);
        x.turn(2);
        check.due("not yet", x.count(4), 0);
        x.turn(1);
        check.due("it struck", x.count(4), 1);
        check.due("nobody paid", x.count(7), 0);
        HatAtCouncil none = new HatAtCouncil();
        none.turn(20);
        check.due("of no councillors", none.count(4), 1);
        check.due("nobody paid", none.count(7), 0);
    }

    /** Terms 1: SPOKE 1 more (999 at most), PAID 1 more (999 at most). */
    private static void spokeAndPaidStayAt999() {
        HatAtCouncil x = Check.council("1a;1");
        x.midnight(1);
        for (int i = 0; i < 16; i++) {
            x.turn(60);
        }
        x.turn(38);
        check.due("spoke 998", x.man(0, 2), 998);
        check.due("paid 998", x.man(0, 3), 998);
        x.turn(1);
        check.due("spoke 999", x.man(0, 2), 999);
        check.due("paid 999", x.man(0, 3), 999);
        x.turn(1);
        check.due("spoke no more", x.man(0, 2), 999);
        check.due("paid no more", x.man(0, 3), 999);
        check.due("evenings go on", x.count(4), 1000);
        x.talk(0, 1, 0);
        x.talk(1, 2, 0);
        check.due("nor by sneezes", x.man(0, 2), 999);
        check.due("nor by questions", x.man(0, 3), 999);
        check.due("spoke of all", x.count(6), 1000);
        check.due("paid of all", x.count(7), 999);
        check.due("who paid no more", x.pays(20), 0);
        check.row("grows no more", x, 0, 0);
        x.undo();
        x.undo();
        x.undo();
        x.undo();
        check.due("undone: spoke", x.man(0, 2), 998);
        check.due("undone: paid", x.man(0, 3), 998);
        check.due("it pays once more", x.pays(20), 0);
        check.row("grows by one", x, 1, 0);
    }

    // 10: talk()

    /** 10: NONE: none such, another KIND. */
    private static void talkOfNobody() {
        int[] men = {-1, 3, 8, 32, GREATEST, LEAST};
        for (int man : men) {
            for (int kind = -1; kind <= 5; kind++) {
                int by = kind;
                twins.refused("talk of " + man + " by " + kind, Twins::busy, x -> x.talk(man, by, 0), -1);
            }
        }
        int[] kinds = {-1, 5, 6, GREATEST, LEAST};
        for (int kind : kinds) {
            for (int man = 0; man < 3; man++) {
                int who = man;
                twins.refused("talk of " + man + " by " + kind, Twins::busy, x -> x.talk(who, kind, 0), -1);
            }
        }
        for (int kind = 0; kind <= 4; kind++) {
            int by = kind;
            twins.refused("nobody is there", x -> { }, x -> x.talk(0, by, 0), -1);
        }
    }

    /** 10: -2: it WEARS THE HAT. */
    private static void talkWithTheHat() {
        for (int kind = 0; kind <= 4; kind++) {
            int by = kind;
            twins.refused("with the hat by " + kind, Twins::busy, x -> x.talk(2, by, 0), -2);
            twins.refused("with the hat, far off", Twins::busy, x -> x.talk(2, by, GREATEST), -2);
        }
    }

    /** 10: -3: it can't talk so (asked behind that). */
    private static void talkThatCanNotBe() {
        int[] things = {-1, 8, 31, 32, 256, GREATEST, LEAST, 1, 2, 3, 7};
        for (int thing : things) {
            twins.refused("plain of " + thing, Twins::busy, x -> x.talk(0, 0, thing), -3);
            twins.refused("in one breath of " + thing, Twins::busy, x -> x.talk(0, 3, thing), -3);
            twins.refused("cutting in by " + thing, Twins::busy, x -> x.talk(0, 4, thing), -3);
        }
        twins.refused("in one breath of a alone", Twins::busy, x -> x.talk(0, 3, 0), -3);
        HatAtCouncil x = new HatAtCouncil();
        Twins.busy(x);
        check.due("plain of a", x.talk(0, 0, 0), 7);
        check.due("one more to undo", x.count(9), 7);
    }

    // 11: turn()

    /** 11: n TURNS (0 .. 60). */
    private static void turnOfNoneTo60() {
        for (int n = 0; n <= 60; n++) {
            HatAtCouncil x = new HatAtCouncil();
            check.due("turn " + n, x.turn(n), -2);
            check.row("turn " + n, x, n / 20, n);
            check.due("minute behind " + n, x.count(2), n % 20);
        }
        HatAtCouncil x = Check.council("1a;1b");
        x.midnight(1);
        check.due("60 that all strike", x.turn(60), -2);
        check.row("60 that all strike", x, 60, 0);
        HatAtCouncil y = new HatAtCouncil();
        Twins.busy(y);
        check.due("no turn: who wears the hat", y.turn(0), 2);
        check.row("no turn", y, 0, 0);
        check.due("no turn changes no minute", y.count(2), 5);
    }

    /** 11: Refused: another n. */
    private static void turnOfOthers() {
        int[] others = {-1, 61, 99, GREATEST, LEAST};
        for (int n : others) {
            twins.refused("turn " + n, Twins::busy, x -> x.turn(n), -1);
        }
    }

    /** Terms 1: of equal ones the first; the first THING that it CAN SAY. */
    private static void turnOfEqualOnes() {
        HatAtCouncil x = Check.council("1;1h;1gh;1fgh");
        Check.rule(x, "5");
        check.due("the first one who can say a thing", x.turn(1), 1);
        check.due("h", x.count(5), 128);
        check.due("the next one", x.turn(1), 2);
        check.due("g", x.count(5), 192);
        Check.rule(x, "-512*512*512*16");
        check.due("the least that can be is still the most", x.turn(1), 3);
        check.due("f", x.count(5), 224);
    }

    /** Terms 1: If there is none: a silence: MINUTE is 1 more (and IT STRIKES, perhaps). */
    private static void turnOfASilence() {
        HatAtCouncil x = Check.council("1a;1");
        x.midnight(3);
        x.turn(1);
        check.due("a silence", x.turn(1), 0);
        check.row("a silence", x, 0, 1);
        check.due("minute", x.count(2), 2);
        check.due("nobody spoke in it", x.count(6), 1);
        check.due("it strikes", x.turn(1), -2);
        check.row("it strikes", x, 1, 1);
        check.due("who wears it pays", x.man(0, 3), 1);
    }

    // 12: midnight()

    /** 12: MIDNIGHT becomes v (1 .. 60): what it was. */
    private static void midnightFromOneTo60() {
        HatAtCouncil x = new HatAtCouncil();
        int was = 20;
        for (int v = 1; v <= 60; v++) {
            check.due("midnight " + v, x.midnight(v), was);
            check.due("it is " + v, x.count(3), v);
            was = v;
        }
        check.due("the same again", x.midnight(60), 60);
    }

    /** 12: more than MINUTE. */
    private static void midnightIsMoreThanMinute() {
        for (int minute = 0; minute <= 59; minute++) {
            int n = minute;
            Twins.Act before = x -> {
                x.midnight(60);
                x.turn(n);
            };
            twins.refused("midnight at minute " + minute, before, x -> x.midnight(n), -1);
            HatAtCouncil x = new HatAtCouncil();
            before.on(x);
            check.due("a minute later than " + minute, x.midnight(minute + 1), 60);
            check.due("it does not strike by that", x.count(2), minute);
            x.turn(1);
            check.due("but a minute later", x.count(2), 0);
        }
    }

    /** 12: Refused: others. */
    private static void midnightOfOthers() {
        int[] others = {0, -1, 61, 5, 4, 1, GREATEST, LEAST};
        for (int v : others) {
            twins.refused("midnight " + v, Twins::busy, x -> x.midnight(v), -1);
        }
    }

    // 13: evening()

    private static void badEvening(String s, int place) {
        twins.refusedText("evening " + s, x -> Twins.busyWith(x, s), HatAtCouncil::evening, -1 - place);
    }

    /** 13: an empty one: nothing. */
    private static void eveningMayBeEmpty() {
        HatAtCouncil x = new HatAtCouncil();
        Twins.busyWith(x, "");
        check.due("an empty evening", x.evening(), 0);
        check.row("an empty evening", x, 0, 1);
        check.due("it is nothing to undo", x.count(9), 6);
        check.due("minute stays", x.count(2), 5);
    }

    /** 13: n and a digit (turn()); a digit (councillor). */
    private static void eveningOfDigits() {
        HatAtCouncil x = Check.council("1a;1b");
        check.due("n0", Check.evening(x, "n0"), 1);
        check.row("n0", x, 0, 0);
        check.due("no minute", x.count(2), 0);
        check.due("n9", Check.evening(x, "n9"), 1);
        check.due("nine minutes", x.count(2), 9);
        HatAtCouncil eight = Check.council("1h;1h;1h;1h;1h;1h;1h;1gh");
        check.due("the last councillor and thing", Check.evening(eight, "w7hz0q17"), 3);
        check.row("the last councillor and thing", eight, 0, 0);
        for (String act : new String[] {"z8", "z9", "w8h", "w9a", "q80", "q08", "b8g", "c8h"}) {
            int minute = eight.count(2);
            check.due(act + " is refused", Check.evening(eight, act), 0);
            check.row(act + " is refused", eight, 1, 0);
            check.due(act + " takes no minute", eight.count(2), minute);
            check.due(act + " is nothing to undo", eight.count(9), 1);
        }
    }

    /** 13: they are done one by one, till one is refused. */
    private static void eveningIsDoneTillOneIsRefused() {
        HatAtCouncil x = Check.council("9ab;9bc;9");
        check.due("the first is refused", Check.evening(x, "w0cz1z2"), 0);
        check.row("the first is refused", x, 1, 0);
        check.due("nothing of it was done", x.count(2) + x.count(6), 0);
        check.due("the second is refused", Check.evening(x, "z0z0z1"), 1);
        check.row("the second is refused", x, 1, 0);
        check.due("the third is not done", x.count(1), 0);
        check.due("a minute", x.count(2), 1);
        check.due("the last is refused", Check.evening(x, "z1n0n1z0"), 3);
        check.row("the last is refused", x, 1, 0);
        x.midnight(4);
        check.due("none is refused", Check.evening(x, "z2z1z0z1"), 4);
        check.row("none is refused, one struck", x, 0, 1);
        check.due("the text is empty", x.count(11), 0);
        String[][] refused = {{"", "w0c"}, {"z0", "z0"}, {"", "q00"}, {"z1", "q01"}, {"w1b", "b0a"}, {"z0", "c1b"}};
        for (String[] acts : refused) {
            HatAtCouncil y = Check.council("9ab;9bc;9");
            int done = Check.evening(y, acts[0]);
            check.due(acts[1] + " is refused", Check.evening(y, acts[1] + "z2"), 0);
            check.row(acts[1] + " is refused", y, 1, 0);
            check.due(acts[1] + " is nothing to undo", y.count(9), done);
        }
    }

    /** 13: its end, if it ends too early. */
    private static void eveningEndsTooEarly() {
        for (String act : new String[] {"n0", "z0", "w0a", "q01", "b0a", "c0a"}) {
            for (int n = 1; n < act.length(); n++) {
                badEvening(act.substring(0, n), n);
                badEvening("z0w1h" + act.substring(0, n), 5 + n);
            }
        }
    }

    /** 13: the sign at p can't stand there; nothing is done then. */
    private static void eveningHasABadSign() {
        for (char bad : new char[] {'a', 'm', 'o', 'N', '0', ';', ' ', 0, 255}) {
            badEvening("" + bad, 0);
            badEvening("z0" + bad, 2);
            badEvening("w0a" + bad, 3);
        }
        for (String act : new String[] {"n", "z", "w", "q", "b", "c"}) {
            for (char bad : new char[] {'/', ':', 'a', ' ', 0, 255, 176}) {
                badEvening("z0" + act + bad, 3);
            }
        }
        for (String act : new String[] {"w0", "b0", "c0"}) {
            for (char bad : new char[] {'`', 'i', 'A', '0', ' ', 0, 255, 225}) {
                badEvening("z0" + act + bad, 4);
            }
        }
        for (char bad : new char[] {'/', ':', 'a', ' ', 0, 255, 176}) {
            badEvening("z0q0" + bad, 4);
        }
        badEvening("n00", 2);
        badEvening("z0z1z", 5);
        badEvening("z0x1x", 2);
    }

    /** 13: 60, if it has more and the first 60 could go on or end. */
    private static void eveningTakes60Signs() {
        String full = Check.times("z0z1", 15);
        HatAtCouncil x = Check.council("1;1");
        check.due("60 signs", Check.evening(x, full), 30);
        check.row("60 signs", x, 0, 1);
        check.due("30 minutes", x.count(2), 10);
        HatAtCouncil y = Check.council("1abcdefgh");
        check.due("60 signs of three", Check.evening(y, Check.times("w0a", 20)), 1);
        check.due("20 turns of none", Check.evening(y, Check.times("n0", 30)), 30);
        for (char more : new char[] {'z', 'n', 'x', '0', 0, 255}) {
            badEvening(full + more, 60);
            badEvening(Check.times("w0a", 19) + "z0w" + more, 60);
            badEvening(Check.times("w0a", 19) + "n0n" + more, 60);
            badEvening("z0z0" + Check.times("w0a", 18) + "w0" + more, 60);
        }
        badEvening(Check.times("z0", 40), 60);
        badEvening(Check.times("w0a", 19) + "z0w", 60);
        badEvening(full.substring(0, 59) + "xx", 59);
        badEvening(full.substring(0, 58) + "xx", 58);
        badEvening("x" + full, 0);
    }

    // 14: undo()

    /** 14: Refused: none. */
    private static void undoOfNone() {
        twins.refused("nothing to undo", x -> { }, HatAtCouncil::undo, -1);
        twins.refused("nothing left to undo", x -> {
            Twins.busy(x);
            for (int i = 5; i >= 0; i--) {
                check.due("left", x.undo(), i);
            }
        }, HatAtCouncil::undo, -1);
    }

    /** 14: of 15 that are kept, the latest ones. */
    private static void undoOfFifteen() {
        for (int n = 14; n <= 40; n++) {
            HatAtCouncil x = new HatAtCouncil();
            x.midnight(60);
            check.due("undo it", x.undo(), 0);
            for (int i = 1; i <= n; i++) {
                x.midnight(i);
            }
            int kept = Math.min(n, 15);
            check.due("kept of " + n, x.count(9), kept);
            for (int left = kept - 1; left >= 0; left--) {
                check.due("left of " + n, x.undo(), left);
                check.due("midnight then", x.count(3), n - kept + left == 0 ? 20 : n - kept + left);
            }
            check.due("none is left of " + n, x.undo(), -1);
            check.due("midnight stays", x.count(3), n <= 15 ? 20 : n - 15);
        }
    }

    /** 14: such as were done. */
    private static void undoOfWhatWasDone() {
        HatAtCouncil x = Check.council("1a;1b");
        x.talk(0, 5, 0);
        x.talk(0, 0, 1);
        x.talk(2, 1, 0);
        x.turn(-1);
        x.turn(61);
        x.midnight(0);
        x.midnight(61);
        Check.evening(x, "x");
        Check.evening(x, "z9");
        Check.evening(x, "");
        check.due("refused ones are not kept", x.count(9), 0);
        x.years(5, 60);
        x.ahead(99);
        x.pays(20);
        x.keep(0);
        x.heard(0, 0);
        Check.rule(x, "1");
        Check.lengths(x, "11111111");
        x.sheet(2, 2, 5, 0);
        check.due("nor others", x.count(9), 0);
        x.talk(0, 1, 0);
        x.turn(1);
        x.midnight(9);
        Check.evening(x, "z0");
        check.due("four were done", x.count(9), 4);
    }

    /** 14: evening() of which one act was done, as one. */
    private static void undoOfEvenings() {
        HatAtCouncil x = Check.council("1a;1b");
        Check.evening(x, "z0z1z0z1");
        check.due("as one", x.count(9), 1);
        Check.evening(x, "z0z0");
        check.due("one act of two", x.count(9), 2);
        check.due("undo that", x.undo(), 1);
        check.due("four minutes", x.count(2), 4);
        check.due("undo all four", x.undo(), 0);
        check.due("no minute", x.count(2), 0);
        check.due("nobody spoke", x.count(6), 0);
        check.due("nobody had the hat", x.vote(), 3);
    }

    /** 14: council() and again() forget them, if they are not refused; an empty council() does not. */
    private static void undoIsForgotten() {
        HatAtCouncil x = Check.council("1a;1b");
        x.keep(0);
        x.turn(1);
        Check.come(x, "");
        check.due("an empty council does not", x.count(9), 1);
        Check.come(x, "1;");
        check.due("nor a refused one", x.count(9), 1);
        Check.come(x, "1;1;1;1;1;1;1");
        check.due("nor one without room", x.count(9), 1);
        x.again(1);
        x.again(3);
        x.again(-1);
        check.due("nor refused ones of again()", x.count(9), 1);
        x.again(0);
        check.due("again() does", x.undo(), -1);
        x.turn(1);
        Check.come(x, "1");
        check.due("council() does", x.undo(), -1);
        check.due("what was done stays", x.count(6), 1);
        x.turn(1);
        check.due("what comes then can be undone", x.undo(), 0);
    }
}
