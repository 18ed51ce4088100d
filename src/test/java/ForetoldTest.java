import java.util.Random;

/** What the questions foretell, held against what the deeds then do to a like council: no model is needed for it. */
public final class ForetoldTest {
    private static final int COUNCILS = 3000;
    private static final int SNEEZE = 8;
    private static final Check check = new Check();

    private final long seed;
    private final Random random;

    private ForetoldTest(long seed) {
        this.seed = seed;
        random = new Random(-seed);
    }

    public static void main(String[] args) {
        for (long seed = 1; seed <= COUNCILS; seed++) {
            ForetoldTest t = new ForetoldTest(seed);
            t.next();
            t.ahead();
            t.strikes();
            t.pays();
            t.when();
            t.order();
            t.fro();
            t.law();
            t.years();
            t.evening();
            t.lot();
            t.votesAndFits();
        }
        check.end();
    }

    /** A council somewhere in an evening: always the same one for this seed, made by less than 60 calls. */
    private HatAtCouncil made() {
        Random r = new Random(seed);
        HatAtCouncil x = new HatAtCouncil();
        Check.come(x, lines(r));
        Check.lengths(x, digits(r, 1 + r.nextInt(5)));
        Check.rule(x, someRule(r));
        x.midnight(5 + r.nextInt(16));
        int men = Math.max(1, x.count(0));
        for (int i = r.nextInt(12); i > 0; i--) {
            if (r.nextInt(3) == 0) {
                x.turn(r.nextInt(4));
            } else {
                int kind = r.nextInt(5);
                x.talk(r.nextInt(men), kind, r.nextInt(kind == 2 ? men : 8));
            }
        }
        return x;
    }

    private static String lines(Random r) {
        StringBuilder s = new StringBuilder();
        for (int i = r.nextInt(6); i > 0; i--) {
            s.append(s.length() > 0 ? ";" : "").append(1 + r.nextInt(9));
            for (char c = 'a'; c <= 'h'; c++) {
                s.append(r.nextInt(5) < 2 ? String.valueOf(c) : "");
            }
        }
        return s.toString();
    }

    private static String digits(Random r, int most) {
        StringBuilder s = new StringBuilder();
        for (int i = 0; i < 8; i++) {
            s.append(1 + r.nextInt(most));
        }
        return s.toString();
    }

    private static String someRule(Random r) {
        String[] rules = {"", "-t", "b-p*3", "w>2", "l/(t+1)-h*m", "--w*-(b<m)", "1", "t*t-9*(h=0)", "p+m-l/b"};
        return rules[r.nextInt(rules.length)];
    }

    private String of(String call) {
        return "council " + seed + ": " + call;
    }

    /** -2 stands for nobody in answers, count(1) tells NONE. */
    private static int wearer(HatAtCouncil x) {
        return x.count(1) == HatAtCouncil.NONE ? -2 : x.count(1);
    }

    private static String present(HatAtCouncil x) {
        StringBuilder s = new StringBuilder();
        for (int what = 1; what <= 7; what++) {
            s.append(' ').append(x.count(what));
        }
        for (int man = 0; man < x.count(0); man++) {
            s.append(" /").append(x.man(man, 2)).append(' ').append(x.man(man, 3)).append(' ').append(x.man(man, 4));
        }
        return s.toString();
    }

    private void next() {
        HatAtCouncil asked = made();
        HatAtCouncil done = made();
        int who = asked.next();
        if (who >= 0) {
            check.due(of("next(), its eagerness"), asked.row(1), asked.man(who, 6));
            asked.talk(who, 0, (int) asked.row(0));
            done.turn(1);
            check.due(of("next() tells the turn"), present(asked), present(done));
        } else {
            done.turn(1);
            check.due(of("next() tells a silence"), done.row(1), 1);
        }
    }

    private void ahead() {
        HatAtCouncil asked = made();
        HatAtCouncil done = made();
        int n = random.nextInt(100);
        int who = asked.ahead(n);
        done.turn(Math.min(n, 60));
        done.turn(Math.max(n - 60, 0));
        check.due(of("ahead(" + n + ")"), who, wearer(done));
        check.row(of("ahead(" + n + ")"), asked, done.count(5), done.count(2));
    }

    private void strikes() {
        HatAtCouncil asked = made();
        HatAtCouncil done = made();
        int turns = asked.strikes();
        int paid = done.count(7);
        done.turn(turns - 1);
        check.due(of("strikes(), not sooner"), done.count(4), made().count(4));
        int who = done.next();
        int said = done.count(5) | (who >= 0 ? 1 << done.row(0) : 0);
        int payer = who >= 0 ? who : wearer(done);
        done.turn(1);
        check.row(of("strikes()"), asked, payer, said);
        check.due(of("strikes(), just then"), done.count(4), made().count(4) + 1);
        check.due(of("strikes(), somebody pays"), done.count(7) - paid, payer >= 0 ? 1 : 0);
    }

    private void pays() {
        HatAtCouncil asked = made();
        HatAtCouncil done = made();
        int n = 1 + random.nextInt(20);
        int men = asked.count(0);
        int payer = asked.pays(n);
        if (men == 0) {
            check.due(of("pays(" + n + ") of no councillors"), payer, -2);
            return;
        }
        // an object takes 512 calls, too few for some evenings turn by turn
        for (int i = 0; i < n; i++) {
            done.turn(done.strikes());
        }
        HatAtCouncil fresh = made();
        long[] grown = new long[men];
        int most = 0;
        for (int man = 0; man < men; man++) {
            grown[man] = done.man(man, 3) - fresh.man(man, 3);
            most = grown[man] > grown[most] ? man : most;
        }
        check.due(of("pays(" + n + ")"), payer, most);
        check.row(of("pays(" + n + ")"), asked, grown);
    }

    private void when() {
        HatAtCouncil asked = made();
        HatAtCouncil done = made();
        int things = random.nextInt(256) & random.nextInt(256) & random.nextInt(256);
        int turns = asked.when(things);
        for (int i = 0; i < (turns >= 0 ? turns : 100); i++) {
            check.due(of("when(" + things + "), not sooner"), (things & ~done.count(5)) == 0, false);
            done.turn(1);
        }
        if (turns >= 0) {
            check.due(of("when(" + things + ")"), things & ~done.count(5), 0);
            check.row(of("when(" + things + ")"), asked, done.count(2), wearer(done));
        }
    }

    private void order() {
        HatAtCouncil x = made();
        int things = random.nextInt(256) & random.nextInt(256) & ~x.count(5);
        int not = random.nextInt(x.count(0) + 1) - 1;
        int minutes = x.order(things, not);
        int left = x.count(3) - x.count(2);
        Rows rows = new Rows(x, not);
        int due = 0;
        while (due < left && !rows.found(things, x.count(1), due)) {
            due++;
        }
        check.due(of("order(" + things + ", " + not + ")"), minutes, due < left ? due : -2);
        if (minutes < 0 || due >= left) {
            return;
        }
        check.row(of("order(" + things + ", " + not + ")"), x, rows.row());
        HatAtCouncil done = made();
        for (int i = 0; i + 1 < x.count(10); i += 2) {
            int thing = (int) x.row(i + 1);
            done.talk((int) x.row(i), thing == SNEEZE ? 1 : 0, thing);
        }
        check.due(of("order(), its minutes"), done.count(2), x.count(2) + minutes);
        check.due(of("order(), all is said"), done.count(5), x.count(5) | things);
        check.due(of("order(), who does not wear it"), not >= 0 && done.count(1) == not, false);
    }

    /** All rows of talks that last so long, the least first, till one is found. */
    private static final class Rows {
        private final HatAtCouncil x;
        private final int not;
        private final int[][] minutes;
        private final int[] talks = new int[200];
        private int size;

        Rows(HatAtCouncil x, int not) {
            this.x = x;
            this.not = not;
            minutes = new int[x.count(0)][SNEEZE + 1];
            for (int man = 0; man < minutes.length; man++) {
                for (int thing = 0; thing < SNEEZE; thing++) {
                    boolean can = (x.man(man, 1) >> thing & 1) != 0 && x.thing(thing, 0) <= x.man(man, 0);
                    minutes[man][thing] = can ? x.thing(thing, 0) : 0;
                }
                minutes[man][SNEEZE] = 1;
            }
        }

        boolean found(int things, int hat, int exactly) {
            size = 0;
            return goesOn(things, hat, exactly, 0);
        }

        private boolean goesOn(int things, int hat, int left, int sneezes) {
            if (left == 0) {
                return things == 0 && (not < 0 || hat != not);
            }
            int least = 0;
            for (int thing = 0; thing < SNEEZE; thing++) {
                least += (things >> thing & 1) * x.thing(thing, 0);
            }
            // two sneezes behind each other hand the hat on like one, so none of the shortest has them
            for (int man = 0; man < minutes.length && least <= left; man++) {
                for (int thing = 0; thing <= SNEEZE; thing++) {
                    boolean due = thing == SNEEZE ? sneezes == 0 : (things >> thing & 1) != 0;
                    if (man != hat && due && minutes[man][thing] > 0 && minutes[man][thing] <= left) {
                        talks[size++] = man;
                        talks[size++] = thing;
                        int rest = thing == SNEEZE ? things : things & ~(1 << thing);
                        if (goesOn(rest, man, left - minutes[man][thing], thing == SNEEZE ? 1 : 0)) {
                            return true;
                        }
                        size -= 2;
                    }
                }
            }
            return false;
        }

        long[] row() {
            long[] row = new long[size];
            for (int i = 0; i < size; i++) {
                row[i] = talks[i];
            }
            return row;
        }
    }

    private void fro() {
        HatAtCouncil asked = made();
        int men = asked.count(0);
        if (men < 2) {
            return;
        }
        int one = random.nextInt(men);
        int other = (one + 1 + random.nextInt(men - 1)) % men;
        int talks = asked.fro(one, other);
        HatAtCouncil done = made();
        if (done.count(1) == one) {
            check.due(of("fro(" + one + ", " + other + ")"), talks, -2);
            return;
        }
        // the first one does not wear the hat, so each talk of theirs is one that talk() takes
        int begun = done.count(2);
        int evening = done.count(4);
        for (int i = 0; i < talks; i++) {
            int man = i % 2 == 0 ? one : other;
            int thing = Integer.numberOfTrailingZeros(done.man(man, 5) | 256);
            done.talk(man, 0, thing);
        }
        int next = talks % 2 == 0 ? one : other;
        check.row(of("fro(" + one + ", " + other + ")"), asked, done.count(2) - begun, next);
        check.due(of("fro(), in one evening"), done.count(4), evening);
        int thing = Integer.numberOfTrailingZeros(done.man(next, 5) | 256);
        boolean more = done.talk(next, 0, thing) >= 0 && done.count(4) == evening;
        check.due(of("fro(), it goes on no longer"), more, false);
    }

    private void law() {
        HatAtCouncil asked = made();
        HatAtCouncil done = made();
        String text = someRule(random);
        int who = Check.law(asked, text);
        Check.rule(done, text);
        check.due(of("law() of " + text), who, done.next());
        long[] eager = new long[done.count(0)];
        for (int man = 0; man < eager.length; man++) {
            eager[man] = done.man(man, 6);
        }
        check.row(of("law() of " + text), asked, eager);
        check.due(of("law() leaves the rule"), asked.next(), made().next());
    }

    private void years() {
        HatAtCouncil asked = made();
        HatAtCouncil done = made();
        int first = random.nextInt();
        int n = 1 + random.nextInt(60);
        int men = done.count(0);
        int evening = done.count(4);
        int struck = asked.years(first, n);
        long[] r = {first};
        for (int i = 0; i < n; i++) {
            int kind = draw(r, 4);
            if (kind < 2) {
                done.turn(1);
            } else if (men > 0) {
                int man = draw(r, men);
                done.talk(man, kind - 1, kind == 3 ? draw(r, men) : 0);
            }
        }
        check.due(of("years(" + first + ", " + n + ")"), struck, done.count(4) - evening);
        check.row(of("years(" + first + ", " + n + ")"), asked, wearer(done), done.count(2));
        check.due(of("years() changes nothing"), present(asked), present(made()));
    }

    /** The DRAW of the document, reckoned with a long that is cut to 32 bits. */
    private static int draw(long[] r, int n) {
        r[0] = r[0] * 1103515245L + 12345L & 0xFFFFFFFFL;
        return (int) (r[0] / 65536 % n);
    }

    private void evening() {
        HatAtCouncil told = made();
        HatAtCouncil done = made();
        int men = Math.max(1, done.count(0));
        StringBuilder s = new StringBuilder();
        int acts = 0;
        boolean refused = false;
        for (int i = random.nextInt(20); i > 0; i--) {
            int kind = random.nextInt(6) - 1;
            int man = random.nextInt(kind < 0 ? 6 : men);
            int what = random.nextInt(kind == 2 ? men : 8);
            s.append("nwzqbc".charAt(kind + 1)).append(man);
            s.append(kind == 2 ? "" + what : kind == 1 || kind < 0 ? "" : "" + (char) ('a' + what));
            if (!refused) {
                refused = (kind < 0 ? Math.max(done.turn(man), 0) : done.talk(man, kind, what)) < 0;
                acts += refused ? 0 : 1;
            }
        }
        check.due(of("evening() of " + s), Check.evening(told, s.toString()), acts);
        check.row(of("evening() of " + s), told, refused ? 1 : 0, done.count(4));
        check.due(of("evening() of " + s), present(told), present(done));
        if (acts > 0) {
            told.undo();
        }
        check.due(of("undo() of evening() of " + s), present(told), present(made()));
    }

    private void lot() {
        HatAtCouncil x = made();
        int men = x.count(0);
        int n = 1 + random.nextInt(5);
        if (men < 2) {
            return;
        }
        int man = random.nextInt(men);
        long all = (x.count(1) < 0 ? men : men - 1) * (long) Math.pow(men - 1, n - 1);
        long hits = ways(men, x.count(1), man, n);
        long common = all;
        for (long rest = hits; rest != 0;) {
            long left = common % rest;
            common = rest;
            rest = left;
        }
        check.due(of("lot(" + man + ", " + n + ")"), x.lot(man, n), 0);
        check.row(of("lot(" + man + ", " + n + ")"), x, hits / common, all / common);
    }

    private static long ways(int men, int hat, int man, int n) {
        long ways = n == 0 && hat == man ? 1 : 0;
        for (int other = 0; n > 0 && other < men; other++) {
            ways += other == hat ? 0 : ways(men, other, man, n - 1);
        }
        return ways;
    }

    private void votesAndFits() {
        HatAtCouncil x = made();
        int never = 0;
        for (int man = 0; man < x.count(0); man++) {
            never |= (1 - x.man(man, 4)) << man;
        }
        check.due(of("vote()"), x.vote(), never);
        x.heard(3, 0);
        check.due(of("fits() of those who may vote"), x.fits(), never);
        int fewest = 9;
        int best = -2;
        for (int thing = 0; thing < 8; thing++) {
            x.heard(0, thing);
            int wanting = Integer.bitCount(x.fits());
            int left = Math.max(wanting, Integer.bitCount(never) - wanting);
            if (never != 0 && left < fewest) {
                fewest = left;
                best = thing;
            }
            x.forget();
            x.heard(3, 0);
        }
        check.due(of("ask()"), x.ask(), best);
        if (best >= 0) {
            check.row(of("ask()"), x, fewest);
        }
    }
}
