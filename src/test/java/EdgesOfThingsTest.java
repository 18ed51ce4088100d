/** The edges that promises 1 to 9 name, sentence by sentence: THE TEXT, lengths, councillors, rules, sheets. */
public final class EdgesOfThingsTest {
    private static final Check check = new Check();
    private static final Twins twins = new Twins(check);
    private static final int LEAST = Integer.MIN_VALUE;
    private static final int GREATEST = Integer.MAX_VALUE;

    public static void main(String[] args) {
        busyStandsAsSaid();
        newObjectHasNothing();
        newObjectHasTheFirstRule();
        signTakesUpTo80();
        signTakesTheHighestByteFirst();
        endCutsFromNoneToAll();
        lengthsTakeOneToNine();
        lengthsEndTooEarly();
        lengthsHaveABadSign();
        lengthsHaveANinthSign();
        councilMayBeEmpty();
        councilTakesBreathOneToNine();
        councilTakesRisingLetters();
        councilEndsTooEarly();
        councilHasRoomForEight();
        councilTakes79Signs();
        councilComesWholeOrNot();
        ruleMayBeEmpty();
        ruleTakesThreeDigits();
        ruleTakesFourBrackets();
        ruleComparesOnce();
        ruleEndsTooEarly();
        ruleHasABadSign();
        ruleTakes40Signs();
        ruleDividesByNothing();
        ruleWrapsAsInts();
        ruleForgetsTheOneAhead();
        manOfNone();
        thingOfNone();
        sheetOfAnotherKind();
        sheetBelowNone();
        sheetMissing();
        sheetOfUpToEight();
        sheetIsPutToOneToNine();
        sheetTakesLowestBits();
        check.end();
    }

    /** What refused calls are held against is not empty. */
    private static void busyStandsAsSaid() {
        HatAtCouncil x = new HatAtCouncil();
        Twins.busy(x);
        long[] due = {3, 2, 5, 30, 1, 14, 6, 1, 2, 6, 2, 8};
        for (int what = 0; what < due.length; what++) {
            check.due("busy: count " + what, x.count(what), due[what]);
        }
        check.row("busy", x, 1, 3);
        check.due("busy: cutting in can be", x.talk(0, 4, 0), 6);
    }

    // 1: No COUNCILLORS.

    private static void newObjectHasNothing() {
        HatAtCouncil x = new HatAtCouncil();
        check.due("no councillors", x.count(0), 0);
        for (int what = 0; what <= 6; what++) {
            int asked = what;
            twins.thrown("man 0 " + what + " of none", y -> { }, y -> y.man(0, asked));
        }
        for (int thing = 0; thing < 8; thing++) {
            check.due("at first 1", x.thing(thing, 0), 1);
            check.due("at first not said", x.thing(thing, 1), 0);
            check.due("nobody can say it", x.thing(thing, 2), 0);
        }
        long[] due = {0, -1, 0, 20, 0, 0, 0, 0, 0, 0, 0, 0};
        for (int what = 0; what < due.length; what++) {
            check.due("at first: count " + what, x.count(what), due[what]);
        }
        check.due("nothing heard", x.forget(), 0);
        check.due("nothing to undo", x.undo(), -1);
        for (int i = 0; i < 3; i++) {
            check.due("nothing kept", x.again(i), false);
        }
    }

    private static void newObjectHasTheFirstRule() {
        HatAtCouncil x = Check.council("4abc");
        check.due("w*3-t+b", x.man(0, 6), 3 * 3 + 4);
        x.talk(0, 1, 0);
        check.due("w*3-t+b with the hat", x.man(0, 6), -1 + 4);
        check.due("at first spoke 0 and paid 0", Check.council("1").man(0, 2) + Check.council("1").man(0, 3), 0);
        check.due("at first it had no hat", Check.council("1").man(0, 4), 0);
    }

    // 2: Refused: there would be more than 80.

    private static void signs(HatAtCouncil x, int n) {
        Check.text(x, Check.times("1", n));
    }

    private static void signTakesUpTo80() {
        for (int n = 0; n <= 76; n++) {
            HatAtCouncil x = new HatAtCouncil();
            signs(x, n);
            check.due("signs behind " + n, x.sign(0x39393939), n + 4);
            check.due("count behind " + n, x.count(11), n + 4);
        }
        for (int n = 77; n <= 80; n++) {
            int signs = n;
            twins.refused("signs behind " + n, x -> {
                Twins.busy(x);
                signs(x, signs);
            }, x -> x.sign(0x39393939), -1);
        }
        HatAtCouncil x = new HatAtCouncil();
        signs(x, 77);
        x.sign(0x39393939);
        x.end(8);
        check.due("what it has stays", x.lengths(), 8);
    }

    /** 2: of v the highest byte first. */
    private static void signTakesTheHighestByteFirst() {
        HatAtCouncil x = new HatAtCouncil();
        x.sign(0x31323334);
        x.sign(0x35363738);
        check.due("all eight", x.lengths(), 36);
        for (int thing = 0; thing < 8; thing++) {
            check.due("length of " + thing, x.thing(thing, 0), thing + 1);
        }
        for (int p = 0; p < 4; p++) {
            // the highest bit of one byte alone makes no digit of it
            x.sign(0x31313131 ^ 128 << 8 * (3 - p));
            check.due("byte " + p + " above 127", x.lengths(), -1 - p);
            x.sign(0x31313131 ^ 0x31 << 8 * (3 - p));
            check.due("byte " + p + " is 0", x.lengths(), -1 - p);
        }
    }

    // 3: false if it has not so many, or n is below 0.

    private static void endCutsFromNoneToAll() {
        for (int n = 0; n <= 80; n += 8) {
            HatAtCouncil x = new HatAtCouncil();
            signs(x, n);
            check.due("end at all " + n, x.end(n), true);
            check.due("all " + n, x.count(11), n);
            check.due("end beyond " + n, x.end(n + 1), false);
            check.due("still " + n, x.count(11), n);
            check.due("end at none", x.end(0), true);
            check.due("none", x.count(11), 0);
        }
        int[] others = {9, 10, 80, GREATEST, -1, -8, LEAST};
        for (int n : others) {
            twins.refused("end " + n + " of 8", Twins::busy, x -> x.end(n) ? 1 : 0, 0);
        }
        HatAtCouncil x = new HatAtCouncil();
        Check.text(x, "123456789");
        x.end(8);
        check.due("its first signs alone", x.lengths(), 36);
        Check.text(x, "12345678");
        x.end(4);
        x.sign(0x39393939);
        check.due("what was cut is gone", x.lengths(), 46);
    }

    // 4: eight digits (1 .. 9)

    private static void badLengths(String s, int place) {
        twins.refusedText("lengths " + s, x -> Twins.busyWith(x, s), HatAtCouncil::lengths, -1 - place);
    }

    private static void lengthsTakeOneToNine() {
        HatAtCouncil x = new HatAtCouncil();
        check.due("all 1", Check.lengths(x, "11111111"), 8);
        check.due("all 9", Check.lengths(x, "99999999"), 72);
        check.due("the text is empty", x.count(11), 0);
        for (int thing = 0; thing < 8; thing++) {
            check.due("9", x.thing(thing, 0), 9);
        }
    }

    /** 4: its end, if it ends too early. */
    private static void lengthsEndTooEarly() {
        for (int n = 0; n < 8; n++) {
            badLengths("99999999".substring(0, n), n);
        }
    }

    /** 4: the sign at p can't stand there. */
    private static void lengthsHaveABadSign() {
        for (int p = 0; p < 8; p++) {
            for (char bad : new char[] {'0', '/', ':', 'a', ' ', 0, 255, 177}) {
                badLengths("77777777".substring(0, p) + bad + "7777777".substring(p), p);
            }
        }
        badLengths("7x7x7777", 1);
        badLengths("7x", 1);
        badLengths("777x77777", 3);
    }

    /** 4: a ninth sign: at it. */
    private static void lengthsHaveANinthSign() {
        badLengths("777777777", 8);
        badLengths("77777777x", 8);
        badLengths(Check.times("7", 80), 8);
    }

    // 5: council()

    private static void badCouncil(String s, int place) {
        twins.refusedText("council " + s, x -> Twins.busyWith(x, s), HatAtCouncil::council, -1 - place);
    }

    /** 5: an empty one: nothing; 14: an empty council() does not forget; 41: nobody came. */
    private static void councilMayBeEmpty() {
        twins.refusedText("an empty council", x -> Twins.busyWith(x, ""), HatAtCouncil::council, 0);
        HatAtCouncil full = Check.council("1;1;1;1;1;1;1;1");
        check.due("even where there is no room", Check.come(full, ""), 0);
    }

    /** 5: a digit (BREATH, not 0). */
    private static void councilTakesBreathOneToNine() {
        HatAtCouncil x = new HatAtCouncil();
        check.due("1 and 9", Check.come(x, "1;9"), 2);
        check.due("1", x.man(0, 0), 1);
        check.due("9", x.man(1, 0), 9);
        for (char bad : new char[] {'0', '/', ':', 'a', ';', ' ', 0, 255, 177}) {
            badCouncil(bad + "a", 0);
            badCouncil("1a;" + bad + "a", 3);
        }
        badCouncil("11", 1);
        badCouncil("1a1", 2);
    }

    /** 5: letters a .. h, rising, perhaps none; a letter that is no more than the one ahead: at it. */
    private static void councilTakesRisingLetters() {
        HatAtCouncil x = new HatAtCouncil();
        check.due("none, a, h, all", Check.come(x, "1;1a;1h;1abcdefgh"), 4);
        int[] wants = {0, 1, 128, 255};
        for (int man = 0; man < 4; man++) {
            check.due("wants of " + man, x.man(man, 1), wants[man]);
        }
        for (char bad : new char[] {'`', 'i', 'A', ' ', ',', 0, 255, 225}) {
            badCouncil("1" + bad, 1);
            badCouncil("1a" + bad, 2);
        }
        badCouncil("1aa", 2);
        badCouncil("1hh", 2);
        badCouncil("1ba", 2);
        badCouncil("1ha", 2);
        badCouncil("1abcdefgha", 9);
        badCouncil("1abcdefghh", 9);
        badCouncil("1;1b;1acb", 8);
        check.due("they begin anew in each line", Check.come(x, "1h;1a;1h"), 3);
    }

    /** 5: its end, if it ends too early. */
    private static void councilEndsTooEarly() {
        badCouncil("1;", 2);
        badCouncil("1abcdefgh;", 10);
        badCouncil("1;2;3;", 6);
        badCouncil("1;;", 2);
    }

    /** 5: the first sign of a LINE for which there is no room (COUNCILLORS at most 8). */
    private static void councilHasRoomForEight() {
        for (int there = 0; there <= 8; there++) {
            int n = there;
            int room = 8 - there;
            String lines = Check.times("2a;", room) + "2a";
            Twins.Act before = x -> {
                if (n > 0) {
                    Check.come(x, Check.times("1b;", n).substring(0, 3 * n - 1));
                    x.keep(0);
                    x.turn(1);
                }
                Check.text(x, lines);
            };
            twins.refusedText("one too many for " + there, before, HatAtCouncil::council, -1 - 3 * room);
            HatAtCouncil x = new HatAtCouncil();
            before.on(x);
            x.end(Math.max(0, 3 * room - 1));
            check.due("as many as there is room for beside " + there, x.council(), room);
            check.due("eight", x.count(0), 8);
        }
        HatAtCouncil full = Check.council("1;1;1;1;1;1;1;1");
        check.due("no room at all", Check.come(full, "1"), -1);
        check.due("no room, nor a digit", Check.come(full, "x"), -1);
        HatAtCouncil seven = Check.council("1;1;1;1;1;1;1");
        check.due("a ; behind the last line ends too early", Check.come(seven, "1;"), -3);
        check.due("no room, nor a digit", Check.come(seven, "1;x"), -3);
        check.due("a bad letter ahead of it", Check.come(seven, "1aa;1"), -3);
        check.due("room for one", Check.come(seven, "1"), 1);
    }

    /** 5: 79, if it has more and the first 79 could go on or end. */
    private static void councilTakes79Signs() {
        String full = Check.times("1abcdefgh;", 7) + "1abcdefgh";
        for (char more : new char[] {';', '1', 'a', 'h', 'x', 0, 255}) {
            twins.refusedText("80 signs, the last " + (int) more, x -> Check.text(x, full + more),
                HatAtCouncil::council, -80);
        }
        twins.refusedText("80 signs, a bad one at 78", x -> Check.text(x, full.substring(0, 78) + "g;"),
            HatAtCouncil::council, -79);
        twins.refusedText("80 signs, a bad one at 0", x -> Check.text(x, "0" + full), HatAtCouncil::council, -1);
        HatAtCouncil x = new HatAtCouncil();
        check.due("79 signs", Check.come(x, full), 8);
        check.due("the last one counts", x.man(7, 1), 255);
    }

    /** 5: Nothing of it comes, if a LINE can't. */
    private static void councilComesWholeOrNot() {
        badCouncil("4e;5f;0", 6);
        badCouncil("4e;5f;6ff", 8);
        badCouncil("4e;5f;", 6);
        badCouncil("4e;5f;1;1;1;1", 12);
        HatAtCouncil x = new HatAtCouncil();
        Check.come(x, "4abcd;x");
        check.due("one comes anew", Check.come(x, "5"), 1);
        check.due("nothing is left of who did not come", x.man(0, 1), 0);
    }

    // 6: rule(), and 37: as rule()

    private static void badRule(String s, int place) {
        twins.refusedText("rule " + s, x -> Twins.busyWith(x, s), HatAtCouncil::rule, -1 - place);
        twins.refusedText("law " + s, x -> Twins.busyWith(x, s), HatAtCouncil::law, -10000 - place);
    }

    private static void number(String rule, int due) {
        HatAtCouncil x = Check.council("3ab");
        check.due("rule " + rule, Check.rule(x, rule), 0);
        check.due(rule, x.man(0, 6), due);
        check.due("the text behind " + rule, x.count(11), 0);
        check.due("law " + rule, Check.law(x, rule), 0);
        check.row("law " + rule, x, due);
        check.due("the text behind law " + rule, x.count(11), 0);
    }

    /** 6: an empty one: none. */
    private static void ruleMayBeEmpty() {
        HatAtCouncil x = Check.council("3ab");
        Check.rule(x, "7");
        check.due("another rule", x.man(0, 6), 7);
        check.due("an empty one", Check.rule(x, ""), 0);
        check.due("is w*3-t+b", x.man(0, 6), 9);
    }

    /** Terms 1: a NUMBER of 1 to 3 digits. */
    private static void ruleTakesThreeDigits() {
        number("0", 0);
        number("000", 0);
        number("99", 99);
        number("999", 999);
        number("100+200+300", 600);
        badRule("0000", 3);
        badRule("1000", 3);
        badRule("1+2345", 5);
        badRule("(1234)", 4);
        badRule("-1234", 4);
    }

    /** Terms 1: an EXPRESSION in ( ) (at most 4 in one another). */
    private static void ruleTakesFourBrackets() {
        number("((((5))))", 5);
        number("-(-(-(-(5))))", 5);
        number("((((1))))+((((2))))+(3)", 6);
        number("(((1)+(2)*(3)))", 7);
        badRule("(((((5)))))", 4);
        badRule("(((((", 4);
        badRule("((((1+(2", 6);
        badRule("1+((((1)+((((", 10);
        badRule("((((1)))))", 9);
        badRule(")", 0);
        badRule("1)", 1);
        badRule("()", 1);
        badRule("(1)(2)", 3);
        badRule("(1)2", 3);
        badRule("1(2)", 1);
        badRule("w(2)", 1);
    }

    /** Terms 1: < > = (two; not one behind the other). */
    private static void ruleComparesOnce() {
        number("1<2", 1);
        number("2<1", 0);
        number("2<2", 0);
        number("2>2", 0);
        number("2=2", 1);
        number("1=2", 0);
        number("(1<2)=(2>1)", 1);
        number("((1<2)=1)>0", 1);
        for (String first : new String[] {"<", ">", "="}) {
            for (String then : new String[] {"<", ">", "="}) {
                badRule("1" + first + "2" + then + "3", 3);
                badRule("1" + first + then + "3", 2);
            }
            badRule("1" + first + "2+3*4" + first, 7);
            badRule("(1" + first + "(2)" + first, 6);
            badRule(first, 0);
            badRule("1" + first, 2);
            badRule("1+" + first, 2);
        }
    }

    /** 6: its end, if it ends too early. */
    private static void ruleEndsTooEarly() {
        badRule("-", 1);
        badRule("--", 2);
        badRule("(", 1);
        badRule("(1", 2);
        badRule("((1)", 4);
        badRule("1+", 2);
        badRule("1-", 2);
        badRule("1*", 2);
        badRule("1/-", 3);
        badRule("w=(", 3);
    }

    /** 6: the sign at p can't stand there. */
    private static void ruleHasABadSign() {
        for (char bad : new char[] {'a', 'c', 'v', 'x', 'W', ' ', ',', ';', '%', '.', '/', '*', '+', 0, 255, 247}) {
            badRule("" + bad, 0);
            badRule("(" + bad, 1);
            badRule("w-" + bad, 2);
        }
        for (char bad : new char[] {'w', 'b', 'x', '1', '(', ' ', 0, 255}) {
            badRule("w" + bad, 1);
            badRule("(w)" + bad, 3);
        }
        badRule("1w", 1);
        badRule("w+x+y", 2);
    }

    /** 6: 40, if it has more and the first 40 could go on or end. */
    private static void ruleTakes40Signs() {
        String end40 = "-w" + Check.times("+w", 19);
        number(end40, -2 + 19 * 2);
        number("1" + Check.times("+1", 18) + "+12", 31);
        number(Check.times("-", 39) + "7", -7);
        for (char more : new char[] {'+', '1', 'x', ')', 0, 255}) {
            badRule(end40 + more, 40);
            badRule(Check.times("-", 40) + more, 40);
        }
        badRule(Check.times("-", 40), 40);
        badRule("1" + Check.times("+1", 19) + "+", 40);
        badRule("(" + Check.times("1+", 19) + "1", 40);
        badRule(Check.times("-", 80), 40);
        badRule(Check.times("-", 39) + "x", 39);
        badRule(Check.times("-", 39) + "xx", 39);
        badRule(Check.times("-", 39) + "*" + Check.times("1", 40), 39);
        badRule("x" + Check.times("-", 79), 0);
    }

    /** Terms 1: by 0: 0; cut to 0. */
    private static void ruleDividesByNothing() {
        number("7/0", 0);
        number("0/0", 0);
        number("-7/0+3", 3);
        number("5-8/(2-2)*9", 5);
        number("7/2", 3);
        number("-7/2", -3);
        number("7/-2", -3);
        number("-7/-2", 3);
        number("1/2", 0);
        number("-1/2", 0);
    }

    /** Terms 1: As ints: EAGERNESS. */
    private static void ruleWrapsAsInts() {
        number("512*512*512*16", LEAST);
        number("512*512*512*16-1", GREATEST);
        number("-(512*512*512*16)", LEAST);
        number("512*512*512*16/-1", LEAST);
        number("512*512*512*16-1<0", 0);
        number("999*999*999*999", 999 * 999 * 999 * 999);
        HatAtCouncil x = Check.council("1a;2b");
        Check.rule(x, "512*512*512*8*b");
        check.due("what wraps is the least eager", x.next(), 0);
        check.row("what wraps is the least eager", x, 0, 1 << 30);
    }

    /** 6, 37: whatever number a RULE came to, and wherever one broke off, the next one begins anew. */
    private static void ruleForgetsTheOneAhead() {
        for (int rest = 0; rest <= 130; rest++) {
            HatAtCouncil x = Check.council("3ab");
            for (String base : new String[] {"999+1+", "999+999+2+", "999+999+999+3+"}) {
                Check.law(x, base + rest);
                Check.law(x, "4-1");
                check.row("behind " + base + rest, x, 3);
            }
        }
        for (String broken : new String[] {"((((", "1+2*(", "---", "12", "1<", "w+x", "(1))", "1234"}) {
            HatAtCouncil y = Check.council("3ab");
            Check.law(y, broken);
            check.due("behind " + broken, Check.law(y, "((((1))))+12<14"), 0);
            check.row("behind " + broken, y, 1);
        }
    }

    // 7: NoSuchElementException: none such, another what.

    private static void manOfNone() {
        int[] men = {-1, 3, 8, 32, GREATEST, LEAST};
        for (int man : men) {
            for (int what = -1; what <= 7; what++) {
                int asked = what;
                twins.thrown("man " + man + " " + what, Twins::busy, x -> x.man(man, asked));
            }
        }
        int[] whats = {-1, 7, 8, GREATEST, LEAST};
        for (int what : whats) {
            for (int man = 0; man < 3; man++) {
                int asked = man;
                twins.thrown("man " + man + " " + what, Twins::busy, x -> x.man(asked, what));
            }
        }
        for (int what = 0; what <= 6; what++) {
            int asked = what;
            long[] due = {9, 14, 3, 0, 1, 0, 4};
            twins.refused("the last man " + what, Twins::busy, x -> x.man(2, asked), due[what]);
        }
    }

    // 8: NoSuchElementException: likewise.

    private static void thingOfNone() {
        int[] things = {-1, 8, 32, GREATEST, LEAST};
        for (int thing : things) {
            for (int what = -1; what <= 3; what++) {
                int asked = what;
                twins.thrown("thing " + thing + " " + what, Twins::busy, x -> x.thing(thing, asked));
            }
        }
        int[] whats = {-1, 3, 4, GREATEST, LEAST};
        for (int what : whats) {
            twins.thrown("thing 0 " + what, Twins::busy, x -> x.thing(0, what));
            twins.thrown("thing 7 " + what, Twins::busy, x -> x.thing(7, what));
        }
        long[] first = {2, 0, 3};
        long[] last = {1, 0, 0};
        for (int what = 0; what <= 2; what++) {
            int asked = what;
            twins.refused("the first thing " + what, Twins::busy, x -> x.thing(0, asked), first[what]);
            twins.refused("the last thing " + what, Twins::busy, x -> x.thing(7, asked), last[what]);
        }
        check.due("the last of eight councillors", Check.council("1a;1b;1b;1b;1b;1b;1b;1ah").thing(7, 2), 128);
    }

    // 9: sheet()

    /** 9: NONE: another kind, n above 8 (these first). */
    private static void sheetOfAnotherKind() {
        int[] kinds = {-1, 4, 5, GREATEST, LEAST};
        int[] counts = {LEAST, -1, 0, 3, 8, 9, GREATEST};
        for (int kind : kinds) {
            for (int n : counts) {
                twins.refused("sheet " + kind + " " + n, Twins::busy, x -> x.sheet(kind, n, 5, 1), -1);
            }
        }
        for (int kind = 0; kind <= 3; kind++) {
            int asked = kind;
            twins.refused("sheet " + kind + " 9", Twins::busy, x -> x.sheet(asked, 9, 5, 1), -1);
            twins.refused("sheet " + kind + " far above", Twins::busy, x -> x.sheet(asked, GREATEST, 5, 1), -1);
        }
    }

    /** 9: -2: n below 0 (of kinds 0 .. 2; nothing changes). */
    private static void sheetBelowNone() {
        for (int kind = 0; kind <= 2; kind++) {
            int asked = kind;
            twins.refused("sheet " + kind + " -1", Twins::busy, x -> x.sheet(asked, -1, 5, 1), -2);
            twins.refused("sheet " + kind + " far below", Twins::busy, x -> x.sheet(asked, LEAST, 5, 1), -2);
        }
    }

    private static void breaths(String call, HatAtCouncil x, int... due) {
        for (int man = 0; man < due.length; man++) {
            check.due(call + ": breath of " + man, x.man(man, 0), due[man]);
        }
    }

    /** 9: -3: missing (all 1). */
    private static void sheetMissing() {
        int[] counts = {LEAST, -1, 0, 1, 3, 8};
        for (int n : counts) {
            HatAtCouncil x = Check.council("3ab;2ac;9bc");
            check.due("missing " + n, x.sheet(3, n, 5, 1), -3);
            breaths("missing " + n, x, 1, 1, 1);
        }
        check.due("missing, of none", new HatAtCouncil().sheet(3, 3, 5, 1), -3);
    }

    /** 9: of n entries; those behind it have 1: the sum of all. */
    private static void sheetOfUpToEight() {
        for (int kind = 0; kind <= 2; kind++) {
            HatAtCouncil x = Check.council("3;3;3;3;3;3;3;3");
            check.due("no entry", x.sheet(kind, 0, 5, 1), 8);
            breaths("no entry", x, 1, 1, 1, 1, 1, 1, 1, 1);
            check.due("seven entries", x.sheet(kind, 7, 2, 1), 2 + 3 + 4 + 5 + 6 + 7 + 8 + 1);
            breaths("seven entries", x, 2, 3, 4, 5, 6, 7, 8, 1);
            check.due("eight entries", x.sheet(kind, 8, 2, 1), 2 + 3 + 4 + 5 + 6 + 7 + 8 + 9);
            breaths("eight entries", x, 2, 3, 4, 5, 6, 7, 8, 9);
            HatAtCouncil two = Check.council("3;3");
            check.due("more entries than councillors", two.sheet(kind, 8, 4, 2), 10);
            Check.come(two, "7");
            breaths("who comes later has its own", two, 4, 6, 7);
            check.due("nobody there", new HatAtCouncil().sheet(kind, 8, 4, 2), 0);
        }
    }

    private static void breath(String call, int kind, int entry, int due) {
        HatAtCouncil x = Check.council("4");
        check.due(call, x.sheet(kind, 1, entry, 77), due);
        check.due(call + " is its breath", x.man(0, 0), due);
    }

    /** 9: put to 1 .. 9. */
    private static void sheetIsPutToOneToNine() {
        for (int kind = 0; kind <= 2; kind++) {
            breath("-1 by " + kind, kind, -1, 1);
            breath("0 by " + kind, kind, 0, 1);
            breath("1 by " + kind, kind, 1, 1);
            breath("2 by " + kind, kind, 2, 2);
            breath("8 by " + kind, kind, 8, 8);
            breath("9 by " + kind, kind, 9, 9);
            breath("10 by " + kind, kind, 10, 9);
            breath("127 by " + kind, kind, 127, 9);
            breath("-128 by " + kind, kind, -128, 1);
        }
    }

    /** 9: of bytes, shorts the lowest bits, with their sign. */
    private static void sheetTakesLowestBits() {
        int[] entries = {128, 255, 256, 261, 32767, 32768, 65535, 65536, 65541, -251, -65531, GREATEST, LEAST, LEAST + 6};
        int[] bytes = {1, 1, 1, 5, 1, 1, 1, 1, 5, 5, 5, 1, 1, 6};
        int[] shorts = {9, 9, 9, 9, 9, 1, 1, 1, 5, 1, 5, 1, 1, 6};
        int[] ints = {9, 9, 9, 9, 9, 9, 9, 9, 9, 1, 1, 9, 1, 1};
        for (int i = 0; i < entries.length; i++) {
            breath("byte " + entries[i], 0, entries[i], bytes[i]);
            breath("short " + entries[i], 1, entries[i], shorts[i]);
            breath("int " + entries[i], 2, entries[i], ints[i]);
        }
        HatAtCouncil x = Check.council("4;4;4");
        check.due("entries wrap as ints", x.sheet(2, 3, GREATEST - 1, 1), 9 + 9 + 1);
        check.due("and come back", x.sheet(2, 3, 5, 1 << 31), 5 + 1 + 5);
        check.due("bytes: 127, 257, 387", x.sheet(0, 3, 127, 130), 9 + 1 + 1);
        check.due("a step far off", x.sheet(0, 3, 3, 256 * 5 + 2), 3 + 5 + 7);
        check.due("shorts that wrap", x.sheet(1, 3, 3, 65536 + 2), 3 + 5 + 7);
    }
}
