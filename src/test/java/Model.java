import java.math.BigInteger;
import java.util.ArrayDeque;
import java.util.ArrayList;
import java.util.Arrays;
import java.util.Deque;
import java.util.HashSet;
import java.util.List;
import java.util.NoSuchElementException;
import java.util.PriorityQueue;
import java.util.Set;
import java.util.TreeSet;

/** The document told a second time, slowly and with the whole library, to hold the class against. */
final class Model {
    static final class Man {
        int breath;
        int wants;
        int spoke;
        int paid;
        boolean had;

        Man same() {
            Man m = new Man();
            m.breath = breath;
            m.wants = wants;
            m.spoke = spoke;
            m.paid = paid;
            m.had = had;
            return m;
        }
    }

    /** Where it all stands: copied whole whenever something is only asked. */
    static final class World {
        List<Man> men = new ArrayList<>();
        int[] length = {1, 1, 1, 1, 1, 1, 1, 1};
        Set<Integer> said = new TreeSet<>();
        int hat = -1;
        int minute = 0;
        int midnight = 20;
        int evening = 0;
        int latestKind = -1;
        int latestMan = -1;
        int latestThing = -1;
        int struck = 0;
        int payer = -1;
        Set<Integer> saidAtStrike = new TreeSet<>();

        World same() {
            World w = new World();
            for (Man m : men) {
                w.men.add(m.same());
            }
            w.length = length.clone();
            w.take(this);
            return w;
        }

        /** What undo() brings back. */
        void take(World o) {
            said = new TreeSet<>(o.said);
            hat = o.hat;
            minute = o.minute;
            midnight = o.midnight;
            evening = o.evening;
            latestKind = o.latestKind;
            latestMan = o.latestMan;
            latestThing = o.latestThing;
            for (int i = 0; i < men.size() && i < o.men.size(); i++) {
                men.get(i).spoke = o.men.get(i).spoke;
                men.get(i).paid = o.men.get(i).paid;
                men.get(i).had = o.men.get(i).had;
            }
        }

        boolean could(int man, int thing) {
            return (men.get(man).wants >> thing & 1) == 1 && length[thing] <= men.get(man).breath;
        }

        boolean canSay(int man, int thing) {
            return thing >= 0 && thing < 8 && could(man, thing) && !said.contains(thing) && hat != man;
        }

        int eager(String rule, int man) {
            return new Reckoner(rule, this, man).all();
        }

        int things(int man) {
            int n = 0;
            for (int t = 0; t < 8; t++) {
                n += canSay(man, t) ? 1 : 0;
            }
            return n;
        }

        int talk(int man, int kind, int what) {
            if (man < 0 || man >= men.size() || kind < 0 || kind > 4) {
                return -1;
            }
            if (hat == man) {
                return -2;
            }
            int wearer = man;
            int minutes;
            if (kind == 0) {
                if (!canSay(man, what)) {
                    return -3;
                }
                minutes = length[what];
                said.add(what);
            } else if (kind == 1) {
                minutes = 1;
            } else if (kind == 2) {
                if (what < 0 || what >= men.size() || what == man || what == hat) {
                    return -3;
                }
                minutes = 1;
                wearer = what;
            } else if (kind == 3) {
                if (!canSay(man, what) || !canSay(man, what + 1)) {
                    return -3;
                }
                minutes = (length[what] + length[what + 1] + 1) / 2;
                said.add(what);
                said.add(what + 1);
            } else {
                if (!canSay(man, what) || latestKind != 0 || latestMan == man) {
                    return -3;
                }
                minutes = (length[what] + 1) / 2;
                said.add(what);
                said.remove(latestThing);
                wearer = latestMan;
            }
            men.get(man).spoke = Math.min(999, men.get(man).spoke + 1);
            latestKind = kind;
            latestMan = man;
            latestThing = what;
            hat = wearer;
            men.get(wearer).had = true;
            pass(minutes);
            return minute;
        }

        void pass(int minutes) {
            minute += minutes;
            if (minute < midnight) {
                return;
            }
            struck++;
            payer = hat;
            saidAtStrike = new TreeSet<>(said);
            if (hat != -1) {
                men.get(hat).paid = Math.min(999, men.get(hat).paid + 1);
            }
            hat = -1;
            said.clear();
            minute = 0;
            evening++;
            latestKind = -1;
            latestMan = -1;
            latestThing = -1;
        }

        int speaker(String rule) {
            int who = -1;
            for (int m = men.size() - 1; m >= 0; m--) {
                if (things(m) > 0 && (who == -1 || eager(rule, m) >= eager(rule, who))) {
                    who = m;
                }
            }
            return who;
        }

        int firstThing(int man) {
            int t = 0;
            while (!canSay(man, t)) {
                t++;
            }
            return t;
        }

        /** Whether it was a silence. */
        boolean turn(String rule) {
            int who = speaker(rule);
            if (who == -1) {
                pass(1);
                return true;
            }
            talk(who, 0, firstThing(who));
            return false;
        }
    }

    /** Reckons a rule straight from its text. */
    static final class Reckoner {
        final String s;
        final World w;
        final int man;
        int p = 0;

        Reckoner(String s, World w, int man) {
            this.s = s;
            this.w = w;
            this.man = man;
        }

        char c() {
            return p < s.length() ? s.charAt(p) : 0;
        }

        int all() {
            int left = sum();
            char c = c();
            if (c != '<' && c != '>' && c != '=') {
                return left;
            }
            p++;
            int right = sum();
            return (c == '<' ? left < right : c == '>' ? left > right : left == right) ? 1 : 0;
        }

        int sum() {
            int left = product();
            while (c() == '+' || c() == '-') {
                if (s.charAt(p++) == '+') {
                    left += product();
                } else {
                    left -= product();
                }
            }
            return left;
        }

        int product() {
            int left = signed();
            while (c() == '*' || c() == '/') {
                char c = s.charAt(p++);
                int right = signed();
                left = c == '*' ? left * right : right == 0 ? 0 : left / right;
            }
            return left;
        }

        int signed() {
            if (c() == '-') {
                p++;
                return -signed();
            }
            if (c() == '(') {
                p++;
                int v = all();
                p++;
                return v;
            }
            if (Character.isDigit(c())) {
                int v = 0;
                while (Character.isDigit(c())) {
                    v = v * 10 + s.charAt(p++) - '0';
                }
                return v;
            }
            Man m = w.men.get(man);
            switch (s.charAt(p++)) {
                case 'w': return w.things(man);
                case 'b': return m.breath;
                case 't': return m.spoke;
                case 'p': return m.paid;
                case 'h': return m.had ? 1 : 0;
                case 'm': return w.minute;
                default: return w.midnight - w.minute;
            }
        }
    }

    static final String USUAL = "w*3-t+b";

    World w = new World();
    String text = "";
    String rule = USUAL;
    List<Long> row = new ArrayList<>();
    Deque<World> past = new ArrayDeque<>();
    World[] kept = new World[3];
    List<int[]> heard = new ArrayList<>();

    private void tell(long... numbers) {
        row = new ArrayList<>();
        for (long n : numbers) {
            row.add(n);
        }
    }

    private static int bits(Iterable<Integer> set) {
        int b = 0;
        for (int i : set) {
            b |= 1 << i;
        }
        return b;
    }

    private boolean none(int man) {
        return man < 0 || man >= w.men.size();
    }

    private static int nobody(int man) {
        return man == -1 ? -2 : man;
    }

    private String readText() {
        String s = text;
        text = "";
        return s;
    }

    int sign(int v) {
        if (text.length() + 4 > 80) {
            return -1;
        }
        for (int i = 3; i >= 0; i--) {
            text += (char) ((v >> 8 * i) & 0xff);
        }
        return text.length();
    }

    boolean end(int n) {
        if (n < 0 || n > text.length()) {
            return false;
        }
        text = text.substring(0, n);
        return true;
    }

    int lengths() {
        String s = readText();
        int p = 0;
        while (p < 8 && p < s.length() && s.charAt(p) >= '1' && s.charAt(p) <= '9') {
            p++;
        }
        if (p < 8 || s.length() > 8) {
            return -1 - p;
        }
        int sum = 0;
        for (int i = 0; i < 8; i++) {
            w.length[i] = s.charAt(i) - '0';
            sum += w.length[i];
        }
        return sum;
    }

    /** By the words: p is the first place where the signs so far begin no council that can be. */
    int council() {
        String s = readText();
        if (s.isEmpty()) {
            return 0;
        }
        for (int p = 0; p < s.length(); p++) {
            if (p >= 79 || !beginsCouncil(s.substring(0, p + 1))) {
                return -1 - p;
            }
        }
        if (s.endsWith(";")) {
            return -1 - s.length();
        }
        String[] lines = s.split(";");
        for (String line : lines) {
            Man m = new Man();
            m.breath = line.charAt(0) - '0';
            for (char c : line.substring(1).toCharArray()) {
                m.wants |= 1 << c - 'a';
            }
            w.men.add(m);
        }
        past.clear();
        Arrays.fill(kept, null);
        return lines.length;
    }

    private boolean beginsCouncil(String s) {
        String[] lines = s.split(";", -1);
        for (int i = 0; i < lines.length; i++) {
            boolean last = i == lines.length - 1;
            if (last && lines[i].isEmpty()) {
                return i > 0;
            }
            if (!lines[i].matches("[1-9]a?b?c?d?e?f?g?h?") || i + w.men.size() >= 8) {
                return false;
            }
        }
        return true;
    }

    /** The place of the sign that can't stand there, or -1. */
    static int badRule(String s) {
        for (int p = 0; p < s.length(); p++) {
            if (p >= 40 || !beginsRule(s.substring(0, p + 1))) {
                return p;
            }
        }
        return isRule(s) ? -1 : s.length();
    }

    /** A beginning is one that becomes whole by a number, if need be, and closing brackets. */
    private static boolean beginsRule(String s) {
        String closing = "))))";
        for (int n = 0; n <= 4; n++) {
            if (isRule(s + closing.substring(0, n)) || isRule(s + "1" + closing.substring(0, n))) {
                return true;
            }
        }
        return false;
    }

    private static boolean isRule(String s) {
        if (!s.matches("[-+*/<>=()wbtphml0-9]*")) {
            return false;
        }
        int depth = 0;
        for (char c : s.toCharArray()) {
            depth += c == '(' ? 1 : c == ')' ? -1 : 0;
            if (depth > 4) {
                return false;
            }
        }
        // brackets are folded from inside until none is left
        String folded = s.replaceAll("[wbtphml]", "x");
        String before;
        do {
            before = folded;
            folded = folded.replaceAll("\\((-*" + PART + "([-+*/]-*" + PART + ")*([<>=]-*" + PART + "([-+*/]-*" + PART + ")*)?)\\)", "y");
        } while (!before.equals(folded));
        return folded.matches("-*" + PART + "([-+*/]-*" + PART + ")*([<>=]-*" + PART + "([-+*/]-*" + PART + ")*)?");
    }

    private static final String PART = "(?:[xy]|(?<![0-9])[0-9]{1,3}(?![0-9]))";

    int rule() {
        String s = readText();
        int bad = s.isEmpty() ? -1 : badRule(s);
        if (bad >= 0) {
            return -1 - bad;
        }
        rule = s.isEmpty() ? USUAL : s;
        return 0;
    }

    int man(int man, int what) {
        if (none(man) || what < 0 || what > 6) {
            throw new NoSuchElementException();
        }
        Man m = w.men.get(man);
        int can = 0;
        for (int t = 0; t < 8; t++) {
            can |= w.canSay(man, t) ? 1 << t : 0;
        }
        return new int[] {m.breath, m.wants, m.spoke, m.paid, m.had ? 1 : 0, can, w.eager(rule, man)}[what];
    }

    int thing(int thing, int what) {
        if (thing < 0 || thing > 7 || what < 0 || what > 2) {
            throw new NoSuchElementException();
        }
        int who = 0;
        for (int m = 0; m < w.men.size(); m++) {
            who |= w.canSay(m, thing) ? 1 << m : 0;
        }
        return new int[] {w.length[thing], w.said.contains(thing) ? 1 : 0, who}[what];
    }

    int sheet(int kind, int n, int f, int step) {
        if (kind < 0 || kind > 3 || n > 8) {
            return -1;
        }
        if (kind < 3 && n < 0) {
            return -2;
        }
        int sum = 0;
        int entry = f;
        for (int i = 0; i < w.men.size(); i++) {
            int v = kind == 0 ? (byte) entry : kind == 1 ? (short) entry : entry;
            w.men.get(i).breath = kind == 3 || i >= n ? 1 : v < 1 ? 1 : v > 9 ? 9 : v;
            sum += w.men.get(i).breath;
            entry += step;
        }
        return kind == 3 ? -3 : sum;
    }

    private void remember(World before) {
        past.addLast(before);
        if (past.size() > 15) {
            past.removeFirst();
        }
    }

    int talk(int man, int kind, int what) {
        World before = w.same();
        int answer = w.talk(man, kind, what);
        if (answer >= 0) {
            remember(before);
        }
        return answer;
    }

    int turn(int n) {
        if (n < 0 || n > 60) {
            return -1;
        }
        remember(w.same());
        int struck = w.struck;
        int silences = 0;
        for (int i = 0; i < n; i++) {
            silences += w.turn(rule) ? 1 : 0;
        }
        tell(w.struck - struck, silences);
        return nobody(w.hat);
    }

    int midnight(int v) {
        if (v < 1 || v > 60 || v <= w.minute) {
            return -1;
        }
        remember(w.same());
        int was = w.midnight;
        w.midnight = v;
        return was;
    }

    private static final String ACT = "n\\d|w\\d[a-h]|z\\d|q\\d\\d|b\\d[a-h]|c\\d[a-h]";
    private static final String BEGUN = "|[nwzqbc]|[wqbc]\\d";

    int evening() {
        String s = readText();
        for (int p = 0; p < s.length(); p++) {
            if (p >= 60 || !s.substring(0, p + 1).matches("(" + ACT + ")*(" + ACT + BEGUN + ")")) {
                return -1 - p;
            }
        }
        if (!s.matches("(" + ACT + ")*")) {
            return -1 - s.length();
        }
        World before = w.same();
        int done = 0;
        boolean refused = false;
        for (int p = 0; p < s.length() && !refused; ) {
            char c = s.charAt(p);
            int digit = s.charAt(p + 1) - '0';
            if (c == 'n') {
                for (int i = 0; i < digit; i++) {
                    w.turn(rule);
                }
            } else if (c == 'z') {
                refused = w.talk(digit, 1, 0) < 0;
            } else if (c == 'q') {
                refused = w.talk(digit, 2, s.charAt(p + 2) - '0') < 0;
            } else {
                refused = w.talk(digit, c == 'w' ? 0 : c == 'b' ? 3 : 4, s.charAt(p + 2) - 'a') < 0;
            }
            done += refused ? 0 : 1;
            p += c == 'n' || c == 'z' ? 2 : 3;
        }
        if (done > 0) {
            remember(before);
        }
        tell(refused ? 1 : 0, w.evening);
        return done;
    }

    int undo() {
        if (past.isEmpty()) {
            return -1;
        }
        w.take(past.removeLast());
        return past.size();
    }

    int next() {
        int who = w.speaker(rule);
        if (who == -1) {
            tell();
            return -2;
        }
        tell(w.firstThing(who), w.eager(rule, who));
        return who;
    }

    int ahead(int n) {
        if (n < 0 || n > 99) {
            return -1;
        }
        World g = w.same();
        for (int i = 0; i < n; i++) {
            g.turn(rule);
        }
        tell(bits(g.said), g.minute);
        return nobody(g.hat);
    }

    int strikes() {
        World g = w.same();
        for (int i = 1; i <= 99; i++) {
            g.turn(rule);
            if (g.struck > 0) {
                tell(nobody(g.payer), bits(g.saidAtStrike));
                return i;
            }
        }
        return -2;
    }

    int pays(int n) {
        if (n < 1 || n > 20) {
            return -1;
        }
        if (w.men.isEmpty()) {
            return -2;
        }
        World g = w.same();
        for (int i = 0; i < 999 && g.struck < n; i++) {
            g.turn(rule);
        }
        long[] grown = new long[w.men.size()];
        int best = 0;
        for (int m = 0; m < grown.length; m++) {
            grown[m] = g.men.get(m).paid - w.men.get(m).paid;
            best = grown[m] > grown[best] ? m : best;
        }
        tell(grown);
        return best;
    }

    int vote() {
        Set<Integer> who = new TreeSet<>();
        int wants = 0;
        for (int m = 0; m < w.men.size(); m++) {
            if (!w.men.get(m).had) {
                who.add(m);
                wants |= w.men.get(m).wants;
            }
        }
        tell(who.size(), wants);
        return bits(who);
    }

    int mute() {
        Set<Integer> mute = new TreeSet<>();
        Set<Integer> unwanted = new TreeSet<>();
        for (int t = 0; t < 8; t++) {
            boolean could = false;
            boolean wanted = false;
            for (int m = 0; m < w.men.size(); m++) {
                could |= w.could(m, t);
                wanted |= (w.men.get(m).wants >> t & 1) == 1;
            }
            if (!could && !w.said.contains(t)) {
                mute.add(t);
                if (!wanted) {
                    unwanted.add(t);
                }
            }
        }
        tell(bits(unwanted));
        return bits(mute);
    }

    int when(int things) {
        if (things < 0 || things > 255) {
            return -1;
        }
        World g = w.same();
        for (int i = 0; i <= 99; i++) {
            if ((bits(g.said) & things) == things) {
                tell(g.minute, nobody(g.hat));
                return i;
            }
            g.turn(rule);
        }
        return -2;
    }

    private Set<Integer> could(int man) {
        Set<Integer> set = new TreeSet<>();
        for (int t = 0; t < 8; t++) {
            if (w.could(man, t)) {
                set.add(t);
            }
        }
        return set;
    }

    int alike(int one, int other) {
        if (none(one) || none(other) || one == other) {
            return -1;
        }
        Set<Integer> first = could(one);
        first.removeAll(could(other));
        Set<Integer> second = could(other);
        second.removeAll(could(one));
        Set<Integer> both = could(one);
        both.retainAll(could(other));
        tell(bits(first), bits(second));
        return bits(both);
    }

    int rivals() {
        int most = -2;
        for (int a = w.men.size() - 1; a >= 0; a--) {
            for (int b = w.men.size() - 1; b > a; b--) {
                Set<Integer> both = could(a);
                both.retainAll(could(b));
                both.removeAll(w.said);
                if (both.size() >= most) {
                    most = both.size();
                    tell(a, b, bits(both));
                }
            }
        }
        return most;
    }

    /** The talks so far, ordered by their minutes and then as rows. */
    private static final class Plan implements Comparable<Plan> {
        int minutes;
        int left;
        int hat;
        List<Integer> row = new ArrayList<>();

        Plan then(int more, int remaining, int man, int thing) {
            Plan p = new Plan();
            p.minutes = minutes + more;
            p.left = remaining;
            p.hat = man;
            p.row.addAll(row);
            p.row.add(man);
            p.row.add(thing);
            return p;
        }

        @Override
        public int compareTo(Plan o) {
            if (minutes != o.minutes) {
                return Integer.compare(minutes, o.minutes);
            }
            for (int i = 0; i < row.size() && i < o.row.size(); i++) {
                if (!row.get(i).equals(o.row.get(i))) {
                    return Integer.compare(row.get(i), o.row.get(i));
                }
            }
            return Integer.compare(row.size(), o.row.size());
        }
    }

    int order(int things, int not) {
        if (things < 0 || things > 255 || (bits(w.said) & things) != 0 || (not != -1 && none(not))) {
            return -1;
        }
        PriorityQueue<Plan> queue = new PriorityQueue<>();
        Set<Integer> seen = new HashSet<>();
        Plan begin = new Plan();
        begin.left = things;
        begin.hat = w.hat;
        queue.add(begin);
        while (!queue.isEmpty()) {
            Plan p = queue.remove();
            if (w.minute + p.minutes >= w.midnight) {
                return -2;
            }
            if (!seen.add(p.left * 10 + p.hat + 1)) {
                continue;
            }
            if (p.left == 0 && (not == -1 || p.hat != not)) {
                tell(p.row.stream().mapToLong(i -> i).toArray());
                return p.minutes;
            }
            for (int m = 0; m < w.men.size(); m++) {
                if (m == p.hat) {
                    continue;
                }
                for (int t = 0; t < 8; t++) {
                    if ((p.left >> t & 1) == 1 && w.could(m, t)) {
                        queue.add(p.then(w.length[t], p.left & ~(1 << t), m, t));
                    }
                }
                queue.add(p.then(1, p.left, m, 8));
            }
        }
        return -2;
    }

    int cover(int things) {
        if (things < 0 || things > 255) {
            return -1;
        }
        for (int size = 0; size <= w.men.size(); size++) {
            for (int some = 0; some < 1 << w.men.size(); some++) {
                int all = 0;
                for (int m = 0; m < w.men.size(); m++) {
                    all |= (some >> m & 1) == 1 ? bits(could(m)) : 0;
                }
                if (Integer.bitCount(some) == size && (all & things) == things) {
                    tell(some);
                    return size;
                }
            }
        }
        return -2;
    }

    private int bestShared;

    int shares() {
        bestShared = -1;
        share(0, new long[8], 0, 0);
        return bestShared;
    }

    /** Rows are tried from the least on, so the first one with the most stays. */
    private void share(int thing, long[] who, int used, int count) {
        if (count + 8 - thing <= bestShared) {
            return;
        }
        if (thing == 8) {
            bestShared = count;
            tell(who);
            return;
        }
        who[thing] = -1;
        share(thing + 1, who, used, count);
        for (int m = 0; m < w.men.size(); m++) {
            if ((used >> m & 1) == 0 && !w.said.contains(thing) && w.could(m, thing)) {
                who[thing] = m;
                share(thing + 1, who, used | 1 << m, count + 1);
            }
        }
    }

    int most(int man, int v) {
        if (none(man) || v < 0 || v > 60) {
            return -1;
        }
        int pool = bits(could(man)) & ~bits(w.said);
        int best = 0;
        int bestLength = 0;
        for (int some = 0; some < 256; some++) {
            int sum = 0;
            for (int t = 0; t < 8; t++) {
                sum += (some >> t & 1) * w.length[t];
            }
            if ((some & pool) != some || sum > v) {
                continue;
            }
            int more = Integer.bitCount(some) - Integer.bitCount(best);
            if (more > 0 || (more == 0 && sum < bestLength)) {
                best = some;
                bestLength = sum;
            }
        }
        tell(best);
        return Integer.bitCount(best);
    }

    int fro(int one, int other) {
        if (none(one) || none(other) || one == other) {
            return -1;
        }
        if (w.hat == one) {
            return -2;
        }
        Set<Integer> said = new TreeSet<>(w.said);
        int talks = 0;
        int minutes = 0;
        int next = one;
        while (true) {
            Set<Integer> open = could(next);
            open.removeAll(said);
            if (open.isEmpty()) {
                break;
            }
            int t = open.iterator().next();
            if (w.minute + minutes + w.length[t] >= w.midnight) {
                break;
            }
            said.add(t);
            minutes += w.length[t];
            talks++;
            next = next == one ? other : one;
        }
        tell(minutes, next);
        return talks;
    }

    /** Whether the one who talks now never pays, if he talks so. */
    private static boolean safe(int n, int own, int other, Boolean[][][] known) {
        if (n == 0) {
            return true;
        }
        if (known[n][own][other] == null) {
            boolean can = false;
            for (int k = 1; k <= own && k <= n; k++) {
                can |= k < n && !safe(n - k, other, own, known);
            }
            known[n][own][other] = can;
        }
        return known[n][own][other];
    }

    static int game(int n, int a, int b) {
        if (n < 0 || n > 60 || a < 1 || a > 9 || b < 1 || b > 9) {
            return -1;
        }
        if (n == 0) {
            return -2;
        }
        Boolean[][][] known = new Boolean[61][10][10];
        for (int k = 1; k <= a && k < n; k++) {
            if (!safe(n - k, b, a, known)) {
                return k;
            }
        }
        return 0;
    }

    int wins(int a, int b) {
        if (a < 1 || a > 9 || b < 1 || b > 9) {
            return -1;
        }
        int won = 0;
        int lost = 0;
        for (int n = 1; n <= 60; n++) {
            if (game(n, a, b) > 0) {
                won++;
            } else {
                lost = n;
            }
        }
        tell(lost);
        return won;
    }

    private void fraction(BigInteger up, BigInteger down) {
        BigInteger g = up.gcd(down);
        tell(up.divide(g).longValueExact(), down.divide(g).longValueExact());
    }

    int silent(int n, int k, int p, int v) {
        if (n < 1 || n > 10 || k < 1 || k > 4 || p < 0 || p > 10 || v < 0 || v > 10 || n * k > 16) {
            return -1;
        }
        BigInteger all = BigInteger.TEN.pow(k);
        BigInteger still = BigInteger.valueOf(10 - p).pow(k);
        // ways[j]: so likely j of the minutes so far were silent
        BigInteger[] ways = new BigInteger[n + 2];
        Arrays.fill(ways, BigInteger.ZERO);
        ways[0] = BigInteger.ONE;
        for (int i = 0; i < n; i++) {
            for (int j = n; j >= 0; j--) {
                BigInteger more = j == 0 ? BigInteger.ZERO : ways[j - 1].multiply(still);
                ways[j] = ways[j].multiply(all.subtract(still)).add(more);
            }
        }
        BigInteger sum = BigInteger.ZERO;
        for (int j = v; j <= n; j++) {
            sum = sum.add(ways[j]);
        }
        fraction(sum, all.pow(n));
        return 0;
    }

    int lot(int man, int n) {
        if (none(man) || n < 1 || n > 8) {
            return -1;
        }
        int c = w.men.size();
        if (c < 2) {
            return -2;
        }
        // by who wears it (the last place: nobody), in how many ways
        BigInteger[] ways = new BigInteger[c + 1];
        Arrays.fill(ways, BigInteger.ZERO);
        ways[w.hat == -1 ? c : w.hat] = BigInteger.ONE;
        BigInteger all = BigInteger.ONE;
        for (int i = 0; i < n; i++) {
            BigInteger[] then = new BigInteger[c + 1];
            Arrays.fill(then, BigInteger.ZERO);
            int open = ways[c].signum() != 0 ? c : c - 1;
            for (int from = 0; from <= c; from++) {
                for (int to = 0; to < c; to++) {
                    if (to != from) {
                        then[to] = then[to].add(ways[from]);
                    }
                }
            }
            all = all.multiply(BigInteger.valueOf(open));
            ways = then;
        }
        fraction(ways[man], all);
        return 0;
    }

    int heard(int what, int v) {
        int[] least = {0, 1, 0, 0, 0};
        int[] most = {7, 9, 999, 1, 999};
        if (what < 0 || what > 4 || v < least[what] || v > most[what] || heard.size() == 12) {
            return -1;
        }
        heard.add(new int[] {what, v});
        return heard.size();
    }

    int forget() {
        int n = heard.size();
        heard.clear();
        return n;
    }

    private Set<Integer> fitting() {
        Set<Integer> who = new TreeSet<>();
        for (int m = 0; m < w.men.size(); m++) {
            Man x = w.men.get(m);
            boolean fits = true;
            for (int[] h : heard) {
                int v = h[1];
                fits &= h[0] == 0 ? (x.wants >> v & 1) == 1 : h[0] == 1 ? x.breath >= v
                    : h[0] == 2 ? x.spoke <= v : h[0] == 3 ? x.had == (v == 1) : x.paid == v;
            }
            if (fits) {
                who.add(m);
            }
        }
        return who;
    }

    int fits() {
        tell(fitting().size());
        return bits(fitting());
    }

    int ask() {
        if (fitting().isEmpty()) {
            return -2;
        }
        int best = -1;
        int fewest = 99;
        for (int t = 0; t < 8; t++) {
            int yes = 0;
            int no = 0;
            for (int m : fitting()) {
                if ((w.men.get(m).wants >> t & 1) == 1) {
                    yes++;
                } else {
                    no++;
                }
            }
            if (Math.max(yes, no) < fewest) {
                fewest = Math.max(yes, no);
                best = t;
            }
        }
        tell(fewest);
        return best;
    }

    int law() {
        String s = readText();
        int bad = s.isEmpty() ? -1 : badRule(s);
        if (bad >= 0) {
            return -10000 - bad;
        }
        String other = s.isEmpty() ? USUAL : s;
        long[] eager = new long[w.men.size()];
        for (int m = 0; m < eager.length; m++) {
            eager[m] = w.eager(other, m);
        }
        tell(eager);
        return nobody(w.speaker(other));
    }

    private static int gain(int v, int own, int other) {
        int cost = own < other ? own >> 1 : own;
        return v * (own + other > 9 ? 9 : own + other) - cost;
    }

    int rests(int v) {
        if (v < 0 || v > 9) {
            return -1;
        }
        List<long[]> pairs = new ArrayList<>();
        for (int x = 0; x < 10; x++) {
            for (int y = 0; y < 10; y++) {
                boolean rest = true;
                for (int z = 0; z < 10; z++) {
                    rest &= gain(v, z, y) <= gain(v, x, y) && gain(v, z, x) <= gain(v, y, x);
                }
                if (rest) {
                    pairs.add(new long[] {x, y});
                }
            }
        }
        tell(pairs.isEmpty() ? new long[0] : pairs.get(0));
        return pairs.size();
    }

    private int drawn;

    private int draw(int n) {
        drawn = drawn * 1103515245 + 12345;
        return (int) (Integer.toUnsignedLong(drawn) / 65536 % n);
    }

    int years(int seed, int n) {
        if (n < 1 || n > 60) {
            return -1;
        }
        drawn = seed;
        World g = w.same();
        for (int i = 0; i < n; i++) {
            int lot = draw(4);
            if (lot < 2) {
                g.turn(rule);
            } else if (!g.men.isEmpty()) {
                int one = draw(g.men.size());
                if (lot == 2) {
                    g.talk(one, 1, 0);
                } else {
                    g.talk(one, 2, draw(g.men.size()));
                }
            }
        }
        tell(nobody(g.hat), g.minute);
        return g.struck;
    }

    boolean keep(int i) {
        if (i < 0 || i > 2) {
            return false;
        }
        kept[i] = w.same();
        return true;
    }

    boolean again(int i) {
        if (i < 0 || i > 2 || kept[i] == null) {
            return false;
        }
        w.take(kept[i]);
        past.clear();
        return true;
    }

    int count(int what) {
        int spoke = w.men.stream().mapToInt(m -> m.spoke).sum();
        int paid = w.men.stream().mapToInt(m -> m.paid).sum();
        int[] all = {w.men.size(), w.hat, w.minute, w.midnight, w.evening, bits(w.said), spoke, paid,
            heard.size(), past.size(), row.size(), text.length()};
        return what < 0 || what >= all.length ? -100 : all[what];
    }

    long row(int i) {
        if (i < 0 || i >= row.size()) {
            throw new NoSuchElementException();
        }
        return row.get(i);
    }
}
