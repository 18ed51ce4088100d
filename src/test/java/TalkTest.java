/** Promises 10 to 14: talk of all kinds, turns, midnights, evenings told as texts, what is undone. */
public final class TalkTest {
    private static final Check check = new Check();

    public static void main(String[] args) {
        plain();
        sneezes();
        questions();
        oneBreath();
        cuttingIn();
        refusals();
        striking();
        countedTo999();
        turns();
        midnights();
        evenings();
        eveningSigns();
        eveningTooLong();
        undone();
        undoneFifteen();
        undoForgotten();
        check.end();
    }

    private static void plain() {
        HatAtCouncil x = Check.three();
        check.due("plain", x.talk(2, 0, 1), 3);
        check.due("said", x.count(5), 2);
        check.due("hat", x.count(1), 2);
        check.due("spoke", x.man(2, 2), 1);
        check.due("had it", x.man(2, 4), 1);
        check.due("said already", x.talk(0, 0, 1), -3);
        check.due("plain by the next", x.talk(0, 0, 0), 5);
        check.due("hat goes on", x.count(1), 0);
    }

    private static void sneezes() {
        HatAtCouncil x = Check.three();
        check.due("a sneeze", x.talk(1, 1, 12345), 1);
        check.due("hat", x.count(1), 1);
        check.due("nothing said", x.count(5), 0);
        check.due("again", x.talk(1, 1, 0), -2);
        check.due("by another", x.talk(0, 1, -1), 2);
        check.due("and again", x.talk(1, 1, 0), 3);
        check.due("spoke", x.man(1, 2), 2);
    }

    private static void questions() {
        HatAtCouncil x = Check.three();
        check.due("a question", x.talk(1, 2, 2), 1);
        check.due("hat of who was asked", x.count(1), 2);
        check.due("spoke who asks", x.man(1, 2), 1);
        check.due("not who is asked", x.man(2, 2), 0);
        check.due("had it", x.man(2, 4), 1);
        check.due("who asks had it not", x.man(1, 4), 0);
        check.due("who asks may go on", x.talk(1, 1, 0), 2);
        check.due("to who wears it", x.talk(0, 2, 1), -3);
        check.due("to himself", x.talk(0, 2, 0), -3);
        check.due("by who wears it", x.talk(1, 2, 0), -2);
    }

    private static void oneBreath() {
        HatAtCouncil x = Check.three();
        check.due("b and c in one breath: half of 4", x.talk(2, 3, 1), 2);
        check.due("both said", x.count(5), 6);
        check.due("hat", x.count(1), 2);
        check.due("a and b, b is said", x.talk(0, 3, 0), -3);
        x.undo();
        check.due("a and b: half of 5, rounded up", x.talk(0, 3, 0), 3);
        x.undo();
        check.due("a and c are not neighbours", x.talk(1, 3, 0), -3);
        check.due("the next one alone", x.talk(2, 3, 0), -3);
        check.due("the first one alone", x.talk(2, 3, 2), -3);
        x.talk(1, 0, 0);
        x.talk(2, 3, 1);
        check.due("what was said stays", x.count(5), 7);
        HatAtCouncil y = Check.council("1h");
        check.due("there is none behind h", y.talk(0, 3, 7), -3);
        check.due("far off", y.talk(0, 3, Integer.MAX_VALUE), -3);
    }

    private static void cuttingIn() {
        HatAtCouncil x = Check.three();
        check.due("nothing to cut in on", x.talk(0, 4, 0), -3);
        x.talk(2, 0, 1);
        check.due("cutting in: half of 2", x.talk(1, 4, 0), 4);
        check.due("said a, not b", x.count(5), 1);
        check.due("hat of who was cut in on", x.count(1), 2);
        check.due("spoke who cuts in", x.man(1, 2), 1);
        check.due("who cuts in had it not", x.man(1, 4), 0);
        check.due("not on one who cut in", x.talk(0, 4, 1), -3);
        check.due("b can be said again", x.talk(0, 0, 1), 7);
        check.due("who was cut in on cuts in: half of 1, rounded up", x.talk(2, 4, 2), 8);
        check.due("said", x.count(5), 5);
        x.undo();
        x.talk(1, 1, 0);
        check.due("not on a sneeze", x.talk(2, 4, 2), -3);
        x.undo();
        check.due("a thing that it can't say", x.talk(1, 4, 1), -3);
        HatAtCouncil y = Check.council("1a;9b");
        Check.text(y, "15111111");
        y.lengths();
        y.talk(0, 0, 0);
        y.sheet(2, 2, 1, 0);
        y.turn(2);
        y.sheet(2, 2, 1, 8);
        check.due("what the latest talk was stays in silences; half of 5, rounded up", y.talk(1, 4, 1), 6);
        check.due("said", y.count(5), 2);
    }

    private static void refusals() {
        HatAtCouncil x = Check.three();
        check.due("none such", x.talk(3, 1, 0), -1);
        check.due("none such below", x.talk(-1, 1, 0), -1);
        check.due("another kind", x.talk(0, 5, 0), -1);
        check.due("a kind below", x.talk(0, -1, 0), -1);
        check.due("no such thing", x.talk(0, 0, 8), -3);
        check.due("no such thing below", x.talk(0, 0, -1), -3);
        check.due("a thing whose number wraps", x.talk(0, 0, 32), -3);
        check.due("asked: nobody such", x.talk(0, 2, 3), -3);
        check.due("asked: nobody such below", x.talk(0, 2, -1), -3);
        check.due("not wanted", x.talk(0, 0, 2), -3);
        x.sheet(2, 3, 1, 0);
        check.due("too long for its breath", x.talk(0, 0, 0), -3);
        check.due("nothing changed", x.count(6), 0);
        check.due("nothing to undo", x.undo(), -1);
        x.talk(0, 1, 0);
        check.due("the hat is asked ahead of what", x.talk(0, 0, 0), -2);
        check.due("the kind ahead of the hat", x.talk(0, 5, 0), -1);
    }

    private static void striking() {
        HatAtCouncil x = Check.three();
        x.midnight(5);
        check.due("not yet", x.talk(2, 0, 1), 3);
        check.due("at midnight", x.talk(1, 0, 0), 0);
        check.due("nobody wears it", x.count(1), -1);
        check.due("nothing is said", x.count(5), 0);
        check.due("the next evening", x.count(4), 1);
        check.due("midnight stays", x.count(3), 5);
        check.due("pays", x.man(1, 3), 1);
        check.due("had it", x.man(1, 4), 1);
        check.due("not on the talk of the last evening", x.talk(0, 4, 0), -3);
        x.talk(2, 0, 1);
        check.due("beyond midnight", x.talk(0, 0, 0), 0);
        check.due("pays", x.man(0, 3), 1);
        x.talk(2, 0, 1);
        x.talk(1, 1, 0);
        check.due("who is asked pays", x.talk(0, 2, 2), 0);
        check.due("pays", x.man(2, 3), 1);
        x.midnight(4);
        x.talk(2, 0, 1);
        check.due("who is cut in on pays", x.talk(1, 4, 2), 0);
        check.due("pays", x.man(2, 3), 2);
        check.due("paid of all", x.count(7), 4);
        check.due("evenings", x.count(4), 4);
    }

    private static void countedTo999() {
        HatAtCouncil x = Check.council("1a;1a");
        x.midnight(1);
        for (int i = 0; i < 20; i++) {
            x.turn(60);
        }
        check.due("evenings go on", x.count(4), 1200);
        check.due("spoke, by turns", x.man(0, 2) + x.man(1, 2), 1200);
        Check.rule(x, "b-t*0");
        for (int i = 0; i < 20; i++) {
            x.turn(60);
        }
        check.due("spoke at most", x.man(0, 2), 999);
        check.due("paid at most", x.man(0, 3), 999);
        x.talk(0, 1, 0);
        check.due("spoke no more", x.man(0, 2), 999);
        check.due("paid no more", x.man(0, 3), 999);
        x.pays(3);
        check.row("what no more grows", x, 0, 0);
    }

    private static void turns() {
        HatAtCouncil x = Check.three();
        check.due("no turn", x.turn(0), -2);
        check.row("no turn", x, 0, 0);
        check.due("the most eager", x.turn(1), 2);
        check.row("the most eager", x, 0, 0);
        check.due("the first thing", x.count(5), 2);
        check.due("by turns", x.turn(2), 2);
        check.due("minute", x.count(2), 6);
        check.due("then silences", x.turn(13), 2);
        check.row("silences", x, 0, 13);
        check.due("it strikes in a silence", x.turn(1), -2);
        check.row("struck", x, 1, 1);
        check.due("pays", x.man(2, 3), 1);
        check.due("-1 turns", x.turn(-1), -1);
        check.due("61 turns", x.turn(61), -1);
        check.row("refused", x, 1, 1);
        x.midnight(1);
        check.due("60 turns", x.turn(60), -2);
        check.row("60 turns", x, 60, 0);
        HatAtCouncil y = Check.council("1a;1b;1c");
        Check.rule(y, "0");
        check.due("of equal ones the first", y.turn(1), 0);
        Check.rule(y, "t-5");
        check.due("below 0", y.turn(1), 1);
        Check.rule(y, "0-m");
        check.due("the last", y.turn(1), 2);
        HatAtCouncil z = Check.council("1a");
        z.turn(1);
        z.midnight(2);
        z.turn(1);
        check.due("who wears it in a silence pays", z.man(0, 3), 1);
        HatAtCouncil nobody = new HatAtCouncil();
        nobody.midnight(2);
        check.due("nobody there", nobody.turn(5), -2);
        check.row("nobody there", nobody, 2, 5);
    }

    private static void midnights() {
        HatAtCouncil x = Check.three();
        check.due("midnight", x.midnight(60), 20);
        check.due("below", x.midnight(0), -1);
        check.due("above", x.midnight(61), -1);
        check.due("far below", x.midnight(Integer.MIN_VALUE), -1);
        x.talk(2, 0, 1);
        check.due("no more than minute", x.midnight(3), -1);
        check.due("it stays", x.count(3), 60);
        check.due("one more than minute", x.midnight(4), 60);
        check.due("the same once more", x.midnight(4), 4);
        check.due("undone", x.undo(), 3);
        check.due("undone twice", x.undo(), 2);
        check.due("as it was", x.count(3), 60);
    }

    private static void evenings() {
        HatAtCouncil x = Check.three();
        check.due("none", Check.evening(x, ""), 0);
        check.row("none", x, 0, 0);
        check.due("nothing to undo", x.count(9), 0);
        check.due("three talks", Check.evening(x, "w2bw0az1"), 3);
        check.row("three talks", x, 0, 0);
        check.due("minute", x.count(2), 6);
        check.due("hat", x.count(1), 1);
        check.due("one to undo", x.undo(), 0);
        check.due("all of it", x.count(6), 0);
        check.due("cut in, asked", Check.evening(x, "w2bc1aq02"), 2);
        check.row("who is asked wears the hat", x, 1, 0);
        check.due("what was done stays", x.count(5), 1);
        x.undo();
        check.due("in one breath", Check.evening(x, "b2bz0q12"), 3);
        check.due("minute", x.count(2), 4);
        x.undo();
        check.due("turns", Check.evening(x, "n3n9n5n0"), 4);
        check.row("turns", x, 0, 1);
        check.due("all 17", x.count(2), 0);
        check.due("turns empty the text", x.count(11), 0);
        x.undo();
        check.due("the first refused", Check.evening(x, "w0cz1"), 0);
        check.row("the first refused", x, 1, 0);
        check.due("nothing to undo", x.undo(), -1);
        check.due("nobody such", Check.evening(x, "z9"), 0);
        check.row("nobody such", x, 1, 0);
        check.due("n0 alone", Check.evening(x, "n0"), 1);
        check.due("it can be undone", x.undo(), 0);
        HatAtCouncil h = Check.council("1h");
        check.due("h", Check.evening(h, "w0h"), 1);
        check.row("h", h, 0, 0);
        x.midnight(3);
        check.due("an evening ends in it", Check.evening(x, "w2bw2b"), 2);
        check.row("evening then", x, 0, 2);
    }

    private static void eveningBad(HatAtCouncil x, String s, int place) {
        check.due("evening " + s, Check.evening(x, s), -1 - place);
        check.due("text behind " + s, x.count(11), 0);
    }

    private static void eveningSigns() {
        HatAtCouncil x = Check.three();
        x.vote();
        eveningBad(x, "x", 0);
        eveningBad(x, "0", 0);
        eveningBad(x, "n", 1);
        eveningBad(x, "na", 1);
        eveningBad(x, "n10", 2);
        eveningBad(x, "w", 1);
        eveningBad(x, "wa", 1);
        eveningBad(x, "w0", 2);
        eveningBad(x, "w00", 2);
        eveningBad(x, "w0i", 2);
        eveningBad(x, "z0a", 2);
        eveningBad(x, "q0", 2);
        eveningBad(x, "q0a", 2);
        eveningBad(x, "q0 ", 2);
        eveningBad(x, "b0`", 2);
        eveningBad(x, "c:a", 1);
        eveningBad(x, "z1z2 ", 4);
        eveningBad(x, "z1n", 3);
        check.due("nothing was done", x.count(6), 0);
        check.due("nothing to undo", x.undo(), -1);
        check.row("the row of vote()", x, 3, 7);
    }

    private static void eveningTooLong() {
        HatAtCouncil x = Check.three();
        eveningBad(x, Check.times("z1z2", 15) + "z", 60);
        eveningBad(x, Check.times("z1z2", 15) + "!", 60);
        eveningBad(x, Check.times("w0a", 19) + "n5w0a", 60);
        eveningBad(x, "z1?" + Check.times("z", 70), 2);
        eveningBad(x, Check.times("w0a", 19) + "n5w", 60);
        check.due("nothing was done", x.count(6), 0);
        check.due("60 signs", Check.evening(x, Check.times("z1z2", 15)), 30);
        check.row("60 signs", x, 0, 1);
    }

    private static void undone() {
        HatAtCouncil x = Check.three();
        x.talk(2, 0, 1);
        x.talk(1, 0, 0);
        x.midnight(6);
        x.talk(2, 1, 0);
        check.due("struck", x.count(4), 1);
        check.due("undo", x.undo(), 3);
        long[] due = {3, 1, 5, 6, 0, 3, 2, 0, 0, 3};
        for (int what = 0; what < due.length; what++) {
            check.due("undone: count " + what, x.count(what), due[what]);
        }
        check.due("undo midnight", x.undo(), 2);
        check.due("as it was", x.count(3), 20);
        check.due("undo talk", x.undo(), 1);
        check.due("who spoke", x.man(1, 2), 0);
        check.due("who had it", x.man(1, 4), 0);
        check.due("what the latest talk was", x.talk(0, 4, 0), 4);
        check.due("two left", x.count(9), 2);
        x.turn(60);
        check.due("a turn that struck", x.undo(), 2);
        check.due("said", x.count(5), 1);
        x.undo();
        check.due("to the beginning", x.undo(), 0);
        check.due("nothing left", x.undo(), -1);
        check.due("nobody spoke", x.count(6), 0);
        x.midnight(61);
        x.turn(61);
        x.talk(0, 9, 0);
        check.due("refused ones are not kept", x.count(9), 0);
        x.turn(0);
        check.due("no turn at all was done", x.count(9), 1);
    }

    private static void undoneFifteen() {
        HatAtCouncil x = Check.council("1;1");
        for (int i = 0; i < 18; i++) {
            x.talk(i % 2, 1, 0);
        }
        check.due("fifteen are kept", x.count(9), 15);
        for (int i = 14; i >= 0; i--) {
            check.due("undo", x.undo(), i);
            check.due("minute", x.count(2), i + 3);
        }
        check.due("no more", x.undo(), -1);
        check.due("minute stays", x.count(2), 3);
    }

    private static void undoForgotten() {
        HatAtCouncil x = Check.three();
        x.turn(1);
        Check.text(x, "");
        x.council();
        check.due("an empty council forgets nothing", x.count(9), 1);
        Check.text(x, "1;0");
        x.council();
        check.due("nor a refused one", x.count(9), 1);
        check.due("nor a refused again", x.again(0), false);
        check.due("nor that", x.count(9), 1);
        x.keep(0);
        check.due("nor keep", x.count(9), 1);
        check.due("again", x.again(0), true);
        check.due("forgets", x.undo(), -1);
        x.turn(1);
        Check.text(x, "1");
        x.council();
        check.due("a council forgets", x.undo(), -1);
        check.due("what was done stays", x.count(6), 2);
    }
}
