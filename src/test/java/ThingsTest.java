/** Promises 1 to 9: a new object, THE TEXT, lengths, councillors, the rule, what they are, sheets. */
public final class ThingsTest {
    private static final Check check = new Check();

    public static void main(String[] args) {
        newObject();
        signs();
        ends();
        lengths();
        councils();
        councilTooLong();
        ruleSigns();
        ruleTooLong();
        ruleNumbers();
        ruleLetters();
        men();
        things();
        sheets();
        check.end();
    }

    private static void newObject() {
        HatAtCouncil x = new HatAtCouncil();
        long[] due = {0, -1, 0, 20, 0, 0, 0, 0, 0, 0, 0, 0};
        for (int what = 0; what < due.length; what++) {
            check.due("new: count " + what, x.count(what), due[what]);
        }
        for (int thing = 0; thing < 8; thing++) {
            check.due("new: length of " + thing, x.thing(thing, 0), 1);
        }
        check.due("new: undo", x.undo(), -1);
    }

    private static void signs() {
        HatAtCouncil x = new HatAtCouncil();
        for (int i = 1; i <= 20; i++) {
            check.due("sign " + i, x.sign(-1), 4 * i);
        }
        check.due("sign beyond 80", x.sign(0), -1);
        check.due("signs left alone", x.count(11), 80);
        x.end(77);
        check.due("sign beyond 80 by one", x.sign(0), -1);
        x.end(0);
        x.sign(0x39383736);
        x.sign(0x35343332);
        check.due("highest byte first", x.lengths(), 44);
        check.due("first length", x.thing(0, 0), 9);
        check.due("last length", x.thing(7, 0), 2);
    }

    private static void ends() {
        HatAtCouncil x = new HatAtCouncil();
        x.sign(0);
        check.due("end 5", x.end(5), false);
        check.due("end -1", x.end(-1), false);
        check.due("end refused leaves", x.count(11), 4);
        check.due("end 4", x.end(4), true);
        check.due("end 2", x.end(2), true);
        check.due("end 2 cuts", x.count(11), 2);
        check.due("end 3", x.end(3), false);
        check.due("end 0", x.end(0), true);
        check.due("end of nothing", x.end(0), true);
    }

    private static void lengths() {
        HatAtCouncil x = new HatAtCouncil();
        check.due("lengths", Check.lengths(x, "12345678"), 36);
        check.due("lengths empty the text", x.count(11), 0);
        check.due("none", Check.lengths(x, ""), -1);
        check.due("seven", Check.lengths(x, "9999999"), -8);
        check.due("nine", Check.lengths(x, "999999999"), -9);
        check.due("a 0", Check.lengths(x, "99909999"), -4);
        check.due("a letter", Check.lengths(x, "9999999a"), -8);
        check.due("a sign below the digits", Check.lengths(x, "9/999999"), -2);
        check.due("a sign above the digits", Check.lengths(x, "99:99999"), -3);
        check.due("bad ahead of a ninth", Check.lengths(x, "9x9999999"), -2);
        check.due("refused empties the text", x.count(11), 0);
        check.due("refused changes nothing", x.thing(3, 0), 4);
    }

    private static void councils() {
        HatAtCouncil x = new HatAtCouncil();
        check.due("none", Check.come(x, ""), 0);
        check.due("three", Check.come(x, "3ab;9;1abcdefgh"), 3);
        check.due("council empties the text", x.count(11), 0);
        check.due("wants", x.man(0, 1), 3);
        check.due("wants nothing", x.man(1, 1), 0);
        check.due("wants all", x.man(2, 1), 255);
        check.due("breath 0", Check.come(x, "0a"), -1);
        check.due("no breath", Check.come(x, "a"), -1);
        check.due("a line too early", Check.come(x, ";1"), -1);
        check.due("ends too early", Check.come(x, "1;"), -3);
        check.due("two ;", Check.come(x, "1;;1"), -3);
        check.due("falling letters", Check.come(x, "1ba"), -3);
        check.due("like letters", Check.come(x, "1aa"), -3);
        check.due("a letter too high", Check.come(x, "1i"), -2);
        check.due("a letter of capitals", Check.come(x, "1A"), -2);
        check.due("two digits", Check.come(x, "11"), -2);
        check.due("nothing of it comes", Check.come(x, "1a;2b;x"), -7);
        check.due("still three", x.count(0), 3);
        check.due("letters start anew in a line", Check.come(x, "1h;2a"), 2);
        check.due("no room for the fourth of four", Check.come(x, "1;1;1;1"), -7);
        check.due("no room, but it ends there", Check.come(x, "1;1;1;"), -7);
        check.due("still five", x.count(0), 5);
        check.due("room for three", Check.come(x, "1;1;1"), 3);
        check.due("no room", Check.come(x, "1"), -1);
        check.due("nothing needs no room", Check.come(x, ""), 0);
        check.due("eight", x.count(0), 8);
    }

    private static void councilTooLong() {
        String full = Check.times("1abcdefgh;", 7) + "1abcdefgh";
        HatAtCouncil x = new HatAtCouncil();
        check.due("80 signs", Check.come(x, full + ";"), -80);
        check.due("80 signs, the last one bad", Check.come(x, full + "x"), -80);
        check.due("80 signs, an early one bad", Check.come(x, "1b" + full.substring(1) + ";"), -3);
        check.due("79 signs that end too early", Check.come(x, full.substring(0, 69) + ";1abcdefg;"), -80);
        check.due("none came", x.count(0), 0);
        check.due("79 signs", Check.come(x, full), 8);
    }

    private static void ruleBad(HatAtCouncil x, String s, int place) {
        check.due("rule " + s, Check.rule(x, s), -1 - place);
        check.due("law " + s, Check.law(x, s), -10000 - place);
        check.due("text behind " + s, x.count(11), 0);
    }

    private static void ruleSigns() {
        HatAtCouncil x = Check.council("3ab");
        Check.rule(x, "5");
        ruleBad(x, "w+", 2);
        ruleBad(x, "+w", 0);
        ruleBad(x, "*", 0);
        ruleBad(x, "-", 1);
        ruleBad(x, "w w", 1);
        ruleBad(x, "ww", 1);
        ruleBad(x, "w5", 1);
        ruleBad(x, "5w", 1);
        ruleBad(x, "1234", 3);
        ruleBad(x, "w<b<t", 3);
        ruleBad(x, "w<b=t", 3);
        ruleBad(x, "w>1+2*3<t", 7);
        ruleBad(x, "(w=b>t)", 4);
        ruleBad(x, "<w", 0);
        ruleBad(x, "w<", 2);
        ruleBad(x, "w==b", 2);
        ruleBad(x, "()", 1);
        ruleBad(x, "(w", 2);
        ruleBad(x, "w)", 1);
        ruleBad(x, "(w))", 3);
        ruleBad(x, "(((((w)))))", 4);
        ruleBad(x, "(w)(b)", 3);
        ruleBad(x, "(w)5", 3);
        ruleBad(x, "5(w)", 1);
        ruleBad(x, "w+*b", 2);
        ruleBad(x, "w-+b", 2);
        ruleBad(x, "a", 0);
        ruleBad(x, "W", 0);
        check.due("the old rule stays", x.man(0, 6), 5);
        check.due("brackets, four in one another", Check.rule(x, "((((7))))"), 0);
        check.due("their number", x.man(0, 6), 7);
        check.due("brackets, side by side", Check.rule(x, "((((1))))+((((2))))"), 0);
        check.due("an empty rule", Check.rule(x, ""), 0);
        check.due("is the usual one", x.man(0, 6), 9);
    }

    private static void ruleTooLong() {
        HatAtCouncil x = Check.council("3ab");
        ruleBad(x, Check.times("-", 40), 40);
        ruleBad(x, Check.times("-", 41), 40);
        ruleBad(x, "w" + Check.times("+w", 20), 40);
        ruleBad(x, "w" + Check.times("+w", 19) + "x", 39);
        ruleBad(x, "1-" + Check.times("x", 60), 2);
        check.due("40 signs", Check.rule(x, "-w" + Check.times("+w", 19)), 0);
        check.due("their number", x.man(0, 6), 36);
        check.due("39 minus signs", Check.rule(x, Check.times("-", 39) + "7"), 0);
        check.due("their number", x.man(0, 6), -7);
        ruleBad(x, "-w" + Check.times("+w", 19) + "+", 40);
    }

    private static void number(HatAtCouncil x, String rule, int due) {
        check.due("rule " + rule, Check.rule(x, rule), 0);
        check.due(rule, x.man(0, 6), due);
    }

    private static void ruleNumbers() {
        HatAtCouncil x = Check.council("3ab");
        number(x, "007", 7);
        number(x, "999", 999);
        number(x, "2-3-4", -5);
        number(x, "2-(3-4)", 3);
        number(x, "24/4/2", 3);
        number(x, "24/(4/2)", 12);
        number(x, "2+3*4", 14);
        number(x, "(2+3)*4", 20);
        number(x, "2*3+4*5", 26);
        number(x, "7/0", 0);
        number(x, "-7/2", -3);
        number(x, "7/-2", -3);
        number(x, "-7/-2", 3);
        number(x, "8-7/2*2", 2);
        number(x, "--5", 5);
        number(x, "---5", -5);
        number(x, "2--3", 5);
        number(x, "2*-3", -6);
        number(x, "-2*-3+-1", 5);
        number(x, "-(2+3)", -5);
        number(x, "1<2", 1);
        number(x, "2<2", 0);
        number(x, "3>2", 1);
        number(x, "2>2", 0);
        number(x, "2=2", 1);
        number(x, "2=3", 0);
        number(x, "1+1<3", 1);
        number(x, "3>1+2", 0);
        number(x, "-1=0-1", 1);
        number(x, "(1<2)+(3>2)", 2);
        number(x, "(1<2)<2", 1);
        number(x, "5-(1=1)*3", 2);
        number(x, "999*999*999*999", 999 * 999 * 999 * 999);
        number(x, "1/(3-3)+4", 4);
        // 2 to the 31st wraps, and by -1 stays what it is
        number(x, "512*512*512*16/-1", Integer.MIN_VALUE);
    }

    private static void ruleLetters() {
        HatAtCouncil x = Check.three();
        x.midnight(6);
        x.talk(0, 1, 0);
        x.midnight(2);
        x.talk(1, 1, 0);
        x.midnight(9);
        x.talk(0, 0, 0);
        // 0 wears the hat and a is said, which 1 wants too
        letter(x, "w", 0, 1, 2);
        x.undo();
        x.undo();
        letter(x, "w", 2, 2, 2);
        letter(x, "b", 3, 2, 9);
        letter(x, "t", 1, 1, 0);
        letter(x, "p", 0, 1, 0);
        letter(x, "h", 1, 1, 0);
        x.talk(2, 1, 0);
        letter(x, "m", 1, 1, 1);
        letter(x, "l", 1, 1, 1);
        x.midnight(60);
        letter(x, "l", 59, 59, 59);
    }

    private static void letter(HatAtCouncil x, String rule, int... due) {
        check.due("rule " + rule, Check.rule(x, rule), 0);
        for (int man = 0; man < due.length; man++) {
            check.due(rule + " of " + man, x.man(man, 6), due[man]);
        }
    }

    private static void men() {
        HatAtCouncil x = Check.three();
        x.talk(2, 0, 1);
        long[] due = {9, 6, 1, 0, 1, 0, 8};
        for (int what = 0; what < due.length; what++) {
            check.due("man 2 " + what, x.man(2, what), due[what]);
        }
        check.due("b is said", x.man(0, 5), 1);
        check.due("never had the hat", x.man(0, 4), 0);
        check.thrown("man -1", () -> x.man(-1, 0));
        check.thrown("man 3", () -> x.man(3, 0));
        check.thrown("what -1", () -> x.man(0, -1));
        check.thrown("what 7", () -> x.man(0, 7));
    }

    private static void things() {
        HatAtCouncil x = Check.three();
        check.due("length of b", x.thing(1, 0), 3);
        check.due("who can say c", x.thing(2, 2), 6);
        check.due("who can say b", x.thing(1, 2), 5);
        check.due("nobody d", x.thing(3, 2), 0);
        x.talk(2, 0, 1);
        check.due("said", x.thing(1, 1), 1);
        check.due("not said", x.thing(2, 1), 0);
        check.due("said by nobody again", x.thing(1, 2), 0);
        check.due("not by who wears the hat", x.thing(2, 2), 2);
        Check.text(x, "93111111");
        x.lengths();
        check.due("too long for all", x.thing(0, 2), 0);
        check.thrown("thing -1", () -> x.thing(-1, 0));
        check.thrown("thing 8", () -> x.thing(8, 0));
        check.thrown("what -1", () -> x.thing(0, -1));
        check.thrown("what 3", () -> x.thing(0, 3));
    }

    private static void breaths(String call, HatAtCouncil x, int... due) {
        for (int man = 0; man < due.length; man++) {
            check.due(call + ": breath of " + man, x.man(man, 0), due[man]);
        }
    }

    private static void sheets() {
        HatAtCouncil x = Check.three();
        check.due("another kind", x.sheet(4, -1, 5, 1), -1);
        check.due("kind below", x.sheet(-1, 1, 5, 1), -1);
        check.due("n above", x.sheet(3, 9, 5, 1), -1);
        check.due("n below", x.sheet(0, -1, 5, 1), -2);
        check.due("n far below", x.sheet(2, Integer.MIN_VALUE, 5, 1), -2);
        breaths("refused", x, 3, 2, 9);
        check.due("ints", x.sheet(2, 3, 4, 2), 18);
        breaths("ints", x, 4, 6, 8);
        check.due("things it can say then", x.man(1, 5), 5);
        check.due("more entries than councillors", x.sheet(2, 8, 7, -1), 18);
        breaths("more", x, 7, 6, 5);
        check.due("fewer entries", x.sheet(2, 1, 7, -1), 9);
        breaths("fewer", x, 7, 1, 1);
        check.due("no entry", x.sheet(1, 0, 7, 7), 3);
        check.due("put to 1 .. 9", x.sheet(2, 3, -5, 8), 13);
        breaths("put", x, 1, 3, 9);
        check.due("bytes", x.sheet(0, 3, 126, 132), 12);
        breaths("bytes: 126, 2, -122", x, 9, 2, 1);
        x.sheet(2, 3, 5, 0);
        x.sheet(0, 2, 256 + 4, 256 * 256 + 2);
        breaths("bytes: the lowest bits", x, 4, 6, 1);
        check.due("bytes", x.sheet(0, 2, 0x1FF, 4), 1 + 3 + 1);
        check.due("shorts", x.sheet(1, 3, 0x10005, 0xFFFF), 5 + 4 + 3);
        check.due("shorts keep 8 bits more", x.sheet(1, 1, 0x0104, 0), 9 + 1 + 1);
        check.due("shorts with their sign", x.sheet(1, 1, 0x8004, 0), 3);
        check.due("ints wrap", x.sheet(2, 2, Integer.MAX_VALUE, 5), 9 + 1 + 1);
        x.sheet(2, 3, 5, 0);
        check.due("missing", x.sheet(3, -7, 5, 5), -3);
        breaths("missing", x, 1, 1, 1);
        check.due("undo leaves sheets", x.count(9), 0);
    }
}
