import java.util.NoSuchElementException;
import java.util.Random;

/** Long random runs of calls, each answer and all that can be seen held against the plain model. */
public final class AgainstModelTest {
    private static final int RUNS = 1500;
    private static final int CALLS = 120;

    private final Random random;
    private final HatAtCouncil x = new HatAtCouncil();
    private final Model m = new Model();
    private final StringBuilder story = new StringBuilder();

    private AgainstModelTest(long seed) {
        random = new Random(seed);
    }

    public static void main(String[] args) {
        for (long seed = 1; seed <= RUNS; seed++) {
            AgainstModelTest run = new AgainstModelTest(seed);
            if (seed % 8 != 0) {
                run.begin();
            }
            for (int i = 0; i < CALLS; i++) {
                run.oneCall();
            }
        }
        System.out.println("the class and the model agree");
    }

    private void same(String call, long got, long due) {
        story.append(call).append(" = ").append(due).append('\n');
        if (got != due) {
            System.out.println(story);
            System.out.println("but the class answered " + got);
            System.exit(1);
        }
    }

    private int upTo(int most) {
        return random.nextInt(most + 1);
    }

    /** Mostly a number of a range, now and then one beside it or far off. */
    private int about(int least, int most) {
        switch (random.nextInt(30)) {
            case 0: return least - 1;
            case 1: return most + 1;
            case 2: return random.nextInt();
            case 3: return random.nextBoolean() ? Integer.MIN_VALUE : Integer.MAX_VALUE;
            default: return least + upTo(most - least);
        }
    }

    private void text(String s) {
        if (random.nextInt(20) > 0) {
            same("end 0", x.end(0) ? 1 : 0, m.end(0) ? 1 : 0);
        }
        for (int i = 0; i < s.length(); i += 4) {
            int v = 0;
            for (int j = i; j < i + 4; j++) {
                v = v << 8 | (j < s.length() ? s.charAt(j) : random.nextInt(256));
            }
            same("sign " + v, x.sign(v), m.sign(v));
        }
        same("end " + s.length(), x.end(s.length()) ? 1 : 0, m.end(s.length()) ? 1 : 0);
    }

    /** Now and then one sign is put wrong, taken out, or the text goes on. */
    private String spoilt(String s, String signs) {
        if (random.nextInt(4) > 0) {
            return s;
        }
        int p = upTo(s.length());
        char c = random.nextInt(8) == 0 ? (char) random.nextInt(256) : signs.charAt(random.nextInt(signs.length()));
        switch (random.nextInt(4)) {
            case 0: return s.substring(0, p) + c + s.substring(p);
            case 1: return s.substring(0, p);
            case 2: return p < s.length() ? s.substring(0, p) + s.substring(p + 1) : s;
            default: return p < s.length() ? s.substring(0, p) + c + s.substring(p + 1) : s + c;
        }
    }

    private static String short80(String s) {
        return s.length() > 80 ? s.substring(0, 80) : s;
    }

    private String someLines() {
        StringBuilder s = new StringBuilder();
        int lines = random.nextInt(6) == 0 ? 8 : upTo(4);
        for (int i = 0; i < lines; i++) {
            if (i > 0) {
                s.append(';');
            }
            s.append(1 + upTo(8));
            int odds = 1 + upTo(9);
            for (char c = 'a'; c <= 'h'; c++) {
                if (random.nextInt(10) < odds) {
                    s.append(c);
                }
            }
        }
        return short80(spoilt(s.toString(), "0123456789abcdefgh;;;i"));
    }

    private String someLengths() {
        StringBuilder s = new StringBuilder();
        int most = 1 + upTo(8);
        for (int i = 0; i < 8; i++) {
            s.append(1 + random.nextInt(most));
        }
        return spoilt(s.toString(), "0123456789a");
    }

    private String someRule() {
        String s = random.nextInt(12) == 0 ? "" : expression(upTo(4), 0);
        return short80(spoilt(s, "wbtphml0123456789+-*/<>=()x "));
    }

    private String expression(int size, int depth) {
        String s = sum(size, depth);
        return random.nextInt(4) == 0 ? s + "<>=".charAt(random.nextInt(3)) + sum(size, depth) : s;
    }

    private String sum(int size, int depth) {
        StringBuilder s = new StringBuilder(part(size, depth));
        for (int i = upTo(size); i > 0; i--) {
            s.append("+-*/".charAt(random.nextInt(4))).append(part(size - 1, depth));
        }
        return s.toString();
    }

    private String part(int size, int depth) {
        String minus = random.nextInt(5) == 0 ? "--".substring(random.nextInt(2)) : "";
        if (size > 0 && random.nextInt(3) == 0 && (depth < 4 || random.nextInt(6) == 0)) {
            return minus + "(" + expression(size - 1, depth + 1) + ")";
        }
        if (random.nextInt(3) == 0) {
            return minus + "0019999".substring(upTo(5)).substring(0, 1) + (random.nextBoolean() ? "" : upTo(99));
        }
        return minus + "wbtphml".charAt(random.nextInt(7));
    }

    private String someEvening() {
        StringBuilder s = new StringBuilder();
        int men = Math.max(1, m.count(0));
        int acts = random.nextInt(6) == 0 ? upTo(30) : upTo(5);
        for (int i = 0; i < acts; i++) {
            char c = "nnwwzqbc".charAt(random.nextInt(8));
            s.append(c).append(c == 'n' ? upTo(4) : random.nextInt(men));
            if (c == 'q') {
                s.append(random.nextInt(men));
            } else if (c != 'n' && c != 'z') {
                s.append((char) ('a' + upTo(7)));
            }
        }
        return short80(spoilt(s.toString(), "nwzqbc0123456789abcdefghi"));
    }

    private int man() {
        return about(0, Math.max(0, m.count(0) - 1));
    }

    /** Things not said, mostly. */
    private int openThings() {
        return random.nextInt(8) == 0 ? about(0, 255) : upTo(255) & ~m.count(5);
    }

    /** Most runs begin with a council, or little would be said in them. */
    private void begin() {
        text(someLines());
        same("council", x.council(), m.council());
        if (random.nextBoolean()) {
            text(someLengths());
            same("lengths", x.lengths(), m.lengths());
        }
        if (random.nextBoolean()) {
            text(someRule());
            same("rule", x.rule(), m.rule());
        }
    }

    private void oneCall() {
        switch (random.nextInt(22)) {
            case 0: case 1: texts(); break;
            case 2: case 3: case 4: case 5: case 6: acts(); break;
            case 7: case 8: undone(); break;
            case 9: case 10: case 11: speakers(); break;
            case 12: case 13: pairs(); break;
            case 14: case 15: case 16: sayings(); break;
            case 17: games(); break;
            case 18: case 19: who(); break;
            case 20: laws(); break;
            default: odd(); break;
        }
        look();
    }

    private void texts() {
        switch (random.nextInt(5)) {
            case 0: text(someLines()); same("council", x.council(), m.council()); break;
            case 1: text(someLengths()); same("lengths", x.lengths(), m.lengths()); break;
            case 2: text(someRule()); same("rule", x.rule(), m.rule()); break;
            case 3: text(someRule()); same("law", x.law(), m.law()); break;
            default:
                int kind = about(0, 3);
                int n = about(-1, 8);
                int f = random.nextBoolean() ? about(-3, 12) : random.nextInt();
                int step = random.nextBoolean() ? about(-3, 3) : random.nextInt();
                same("sheet " + kind + " " + n + " " + f + " " + step,
                    x.sheet(kind, n, f, step), m.sheet(kind, n, f, step));
        }
    }

    private void acts() {
        int a = man();
        switch (random.nextInt(8)) {
            case 0:
                text(someEvening());
                same("evening", x.evening(), m.evening());
                break;
            case 1:
                int n = random.nextInt(4) == 0 ? about(0, 60) : upTo(5);
                same("turn " + n, x.turn(n), m.turn(n));
                break;
            case 2:
                int v = random.nextBoolean() ? about(1, 60) : m.count(2) + upTo(3);
                same("midnight " + v, x.midnight(v), m.midnight(v));
                break;
            default:
                int kind = about(0, 4);
                int what = kind == 2 ? man() : about(0, 7);
                same("talk " + a + " " + kind + " " + what, x.talk(a, kind, what), m.talk(a, kind, what));
        }
    }

    private void undone() {
        int i = about(0, 2);
        switch (random.nextInt(5)) {
            case 0: same("keep " + i, x.keep(i) ? 1 : 0, m.keep(i) ? 1 : 0); break;
            case 1: same("again " + i, x.again(i) ? 1 : 0, m.again(i) ? 1 : 0); break;
            default: same("undo", x.undo(), m.undo());
        }
    }

    private void speakers() {
        int n = about(0, 99);
        int few = about(1, 20);
        int things = random.nextBoolean() ? about(0, 255) : 1 << upTo(7);
        switch (random.nextInt(7)) {
            case 0: same("next", x.next(), m.next()); break;
            case 1: same("ahead " + n, x.ahead(n), m.ahead(n)); break;
            case 2: same("strikes", x.strikes(), m.strikes()); break;
            case 3: same("pays " + few, x.pays(few), m.pays(few)); break;
            case 4: same("vote", x.vote(), m.vote()); break;
            case 5: same("mute", x.mute(), m.mute()); break;
            default: same("when " + things, x.when(things), m.when(things));
        }
    }

    private void pairs() {
        int a = man();
        int b = man();
        switch (random.nextInt(3)) {
            case 0: same("alike " + a + " " + b, x.alike(a, b), m.alike(a, b)); break;
            case 1: same("rivals", x.rivals(), m.rivals()); break;
            default: same("fro " + a + " " + b, x.fro(a, b), m.fro(a, b));
        }
    }

    private void sayings() {
        int a = man();
        int v = about(0, 60);
        int things = openThings();
        int not = random.nextBoolean() ? -1 : man();
        switch (random.nextInt(6)) {
            case 0: same("cover " + things, x.cover(things), m.cover(things)); break;
            case 1: same("shares", x.shares(), m.shares()); break;
            case 2: same("most " + a + " " + v, x.most(a, v), m.most(a, v)); break;
            default: same("order " + things + " " + not, x.order(things, not), m.order(things, not));
        }
    }

    private void games() {
        int a = about(1, 9);
        int b = about(1, 9);
        int n = about(0, 60);
        int k = about(1, 4);
        int p = about(0, 10);
        int v = about(0, 10);
        int few = about(1, 10);
        int man = man();
        int times = about(1, 8);
        switch (random.nextInt(4)) {
            case 0: same("game " + n + " " + a + " " + b, x.game(n, a, b), Model.game(n, a, b)); break;
            case 1: same("wins " + a + " " + b, x.wins(a, b), m.wins(a, b)); break;
            case 2:
                same("silent " + few + " " + k + " " + p + " " + v, x.silent(few, k, p, v), m.silent(few, k, p, v));
                break;
            default: same("lot " + man + " " + times, x.lot(man, times), m.lot(man, times));
        }
    }

    private void who() {
        int what = about(0, 4);
        int v = what == 1 ? about(1, 9) : what == 3 ? about(0, 1) : about(0, 7);
        switch (random.nextInt(5)) {
            case 0: case 1: same("heard " + what + " " + v, x.heard(what, v), m.heard(what, v)); break;
            case 2: same("fits", x.fits(), m.fits()); break;
            case 3: same("ask", x.ask(), m.ask()); break;
            default: same("forget", x.forget(), m.forget());
        }
    }

    private void laws() {
        int v = about(0, 9);
        int n = about(1, 60);
        int seed = random.nextInt();
        if (random.nextBoolean()) {
            same("rests " + v, x.rests(v), m.rests(v));
        } else {
            same("years " + seed + " " + n, x.years(seed, n), m.years(seed, n));
        }
    }

    private void odd() {
        int v = random.nextInt();
        int n = about(0, 80);
        if (random.nextBoolean()) {
            same("sign " + v, x.sign(v), m.sign(v));
        } else {
            same("end " + n, x.end(n) ? 1 : 0, m.end(n) ? 1 : 0);
        }
        int man = man();
        int what = about(0, 6);
        same("man " + man + " " + what, ofClass(0, man, what), ofModel(0, man, what));
        int thing = about(0, 7);
        same("thing " + thing + " " + what, ofClass(1, thing, what), ofModel(1, thing, what));
        int i = about(0, 8);
        same("row " + i, ofClass(2, i, 0), ofModel(2, i, 0));
        same("count " + v, x.count(v), m.count(v));
    }

    private static final long THROWN = Long.MIN_VALUE;

    private long ofClass(int call, int a, int b) {
        try {
            return call == 0 ? x.man(a, b) : call == 1 ? x.thing(a, b) : x.row(a);
        } catch (NoSuchElementException e) {
            return THROWN;
        }
    }

    private long ofModel(int call, int a, int b) {
        try {
            return call == 0 ? m.man(a, b) : call == 1 ? m.thing(a, b) : m.row(a);
        } catch (NoSuchElementException e) {
            return THROWN;
        }
    }

    /** All that can be seen without a change. */
    private void look() {
        int length = story.length();
        for (int what = -1; what <= 12; what++) {
            same("count " + what, x.count(what), m.count(what));
        }
        for (int i = -1; i <= m.count(10); i++) {
            same("row " + i, ofClass(2, i, 0), ofModel(2, i, 0));
        }
        for (int man = 0; man <= m.count(0); man++) {
            for (int what = 0; what <= 6; what++) {
                same("man " + man + " " + what, ofClass(0, man, what), ofModel(0, man, what));
            }
        }
        for (int thing = 0; thing < 8; thing++) {
            for (int what = 0; what <= 2; what++) {
                same("thing " + thing + " " + what, ofClass(1, thing, what), ofModel(1, thing, what));
            }
        }
        story.setLength(length);
    }
}
