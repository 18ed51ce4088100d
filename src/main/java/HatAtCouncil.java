import java.util.NoSuchElementException;

/** A council where a hat goes to whoever has just spoken, and whoever wears it at midnight pays. */
public final class HatAtCouncil {
    public static final int NONE = -1;

    /** The answer -2: nobody, a silence, or that it can't be. */
    private static final int NOBODY = -2;
    private static final int MEN = 8;
    private static final int THINGS = 8;
    private static final int ALL_THINGS = 255;
    private static final int LONGEST = 9;
    private static final int LAST_MINUTE = 60;
    private static final int MOST_COUNTED = 999;
    private static final int FORESEEN = 99;

    private static final int PLAIN = 0;
    private static final int SNEEZE = 1;
    private static final int QUESTION = 2;
    private static final int ONE_BREATH = 3;
    private static final int CUTTING_IN = 4;

    private static final int EVENING_SIGNS = 60;
    private static final String FIRST_RULE = "w*3-t+b";

    private final Text text;
    private final Row told;
    private final People people;
    private final Night now;
    /** Where turns are played that only a question asks about. */
    private final Night guess;
    private final Past past;
    private final Rumours rumours;
    private final Search search;
    private final Strokes strokes;
    private final Draws draws;
    private Rule inForce;
    private Rule tried;

    public HatAtCouncil() {
        text = new Text();
        told = new Row();
        people = new People();
        now = new Night();
        guess = new Night();
        past = new Past();
        rumours = new Rumours();
        search = new Search(people);
        strokes = new Strokes();
        draws = new Draws();
        inForce = new Rule(text);
        tried = new Rule(text);
        text.tell(FIRST_RULE);
        inForce.read();
        text.empty();
    }

    // ---- things, councillors

    public int sign(int v) {
        return text.add(v);
    }

    public boolean end(int n) {
        return text.cut(n);
    }

    public int lengths() {
        int answer = people.readLengths(text);
        text.empty();
        return answer;
    }

    public int council() {
        int answer = people.readLines(text);
        text.empty();
        if (answer > 0) {
            past.forgetAll();
        }
        return answer;
    }

    public int rule() {
        int bad = readRule();
        if (bad != NONE) {
            return -1 - bad;
        }
        Rule old = inForce;
        inForce = tried;
        tried = old;
        return 0;
    }

    public int man(int man, int what) throws NoSuchElementException {
        if (!people.has(man)) {
            throw new NoSuchElementException("no such councillor");
        }
        switch (what) {
            case 0: return people.breath[man];
            case 1: return people.wants[man];
            case 2: return now.spoke[man];
            case 3: return now.paid[man];
            case 4: return now.hadHat(man);
            case 5: return now.sayable(people, man);
            case 6: return inForce.eagerness(people, now, man);
            default: throw new NoSuchElementException("nothing such of a councillor");
        }
    }

    public int thing(int thing, int what) throws NoSuchElementException {
        if (!isThing(thing)) {
            throw new NoSuchElementException("no such thing");
        }
        switch (what) {
            case 0: return people.length[thing];
            case 1: return (now.said >> thing) & 1;
            case 2: return now.sayers(people, thing);
            default: throw new NoSuchElementException("nothing such of a thing");
        }
    }

    public int sheet(int kind, int n, int f, int step) {
        if (kind < 0 || kind > 3 || n > MEN) {
            return NONE;
        }
        if (kind == 3) {
            people.takeSheet(kind, 0, f, step);
            return -3;
        }
        return n < 0 ? -2 : people.takeSheet(kind, n, f, step);
    }

    // ---- talk, turns

    public int talk(int man, int kind, int what) {
        int refusal = now.refusal(people, man, kind, what);
        if (refusal != 0) {
            return refusal;
        }
        past.remember(now);
        now.goOn(people, man, kind, what);
        return now.minute;
    }

    public int turn(int n) {
        if (n < 0 || n > LAST_MINUTE) {
            return NONE;
        }
        past.remember(now);
        int evening = now.evening;
        int silences = now.play(people, inForce, n);
        told.start();
        told.add(now.evening - evening);
        told.add(silences);
        return orNobody(now.hat);
    }

    public int midnight(int v) {
        if (v < 1 || v > LAST_MINUTE || v <= now.minute) {
            return NONE;
        }
        past.remember(now);
        int was = now.midnight;
        now.midnight = v;
        return was;
    }

    public int evening() {
        int bad = badEveningSign();
        if (bad != NONE) {
            text.empty();
            return -1 - bad;
        }
        guess.copy(now);
        int at = 0;
        int done = 0;
        boolean refused = false;
        for (int i = 0; i < EVENING_SIGNS && at < text.size && !refused; i++) {
            refused = !act(at);
            if (!refused) {
                done++;
            }
            at += actSigns(text.at(at));
        }
        text.empty();
        if (done > 0) {
            past.remember(guess);
        }
        told.start();
        told.add(refused ? 1 : 0);
        told.add(now.evening);
        return done;
    }

    public int undo() {
        return past.bringBack(now);
    }

    // ---- who speaks, on whom it strikes

    public int next() {
        int who = now.speaker(people, inForce);
        told.start();
        if (who == NONE) {
            return NOBODY;
        }
        told.add(firstOf(now.sayable(people, who)));
        told.add(inForce.eagerness(people, now, who));
        return who;
    }

    public int ahead(int n) {
        if (n < 0 || n > FORESEEN) {
            return NONE;
        }
        guess.copy(now);
        guess.play(people, inForce, n);
        told.start();
        told.add(guess.said);
        told.add(guess.minute);
        return orNobody(guess.hat);
    }

    public int strikes() {
        guess.copy(now);
        for (int turns = 1; turns <= FORESEEN; turns++) {
            int who = guess.speaker(people, inForce);
            int payer = who == NONE ? guess.hat : who;
            int said = guess.said;
            if (who != NONE) {
                said |= 1 << firstOf(guess.sayable(people, who));
            }
            guess.takeTurn(people, who);
            if (guess.evening != now.evening) {
                told.start();
                told.add(orNobody(payer));
                told.add(said);
                return turns;
            }
        }
        return NOBODY;
    }

    public int pays(int n) {
        if (n < 1 || n > 20) {
            return NONE;
        }
        if (people.men == 0) {
            return NOBODY;
        }
        guess.copy(now);
        for (int turns = 0; turns < MOST_COUNTED && guess.evening - now.evening < n; turns++) {
            guess.takeTurn(people, guess.speaker(people, inForce));
        }
        int payer = 0;
        told.start();
        for (int man = 0; man < people.men; man++) {
            told.add(guess.paid[man] - now.paid[man]);
            if (guess.paid[man] - now.paid[man] > guess.paid[payer] - now.paid[payer]) {
                payer = man;
            }
        }
        return payer;
    }

    public int vote() {
        int voters = 0;
        int wanted = 0;
        for (int man = 0; man < people.men; man++) {
            if (now.hadHat(man) == 0) {
                voters |= 1 << man;
                wanted |= people.wants[man];
            }
        }
        told.start();
        told.add(Integer.bitCount(voters));
        told.add(wanted);
        return voters;
    }

    public int mute() {
        int could = 0;
        int wanted = 0;
        for (int man = 0; man < people.men; man++) {
            could |= people.could[man];
            wanted |= people.wants[man];
        }
        int unsaid = ALL_THINGS & ~now.said;
        told.start();
        told.add(unsaid & ~wanted);
        return unsaid & ~could;
    }

    public int when(int things) {
        if (!areThings(things)) {
            return NONE;
        }
        guess.copy(now);
        for (int turns = 0; turns <= FORESEEN; turns++) {
            if ((things & ~guess.said) == 0) {
                told.start();
                told.add(guess.minute);
                told.add(orNobody(guess.hat));
                return turns;
            }
            guess.takeTurn(people, guess.speaker(people, inForce));
        }
        return NOBODY;
    }

    public int alike(int one, int other) {
        if (!people.areTwo(one, other)) {
            return NONE;
        }
        int first = people.could[one];
        int second = people.could[other];
        told.start();
        told.add(first & ~second);
        told.add(second & ~first);
        return first & second;
    }

    public int rivals() {
        if (people.men < 2) {
            return NOBODY;
        }
        int most = NONE;
        for (int one = 0; one < people.men; one++) {
            for (int other = one + 1; other < people.men; other++) {
                int both = people.could[one] & people.could[other] & ~now.said;
                if (Integer.bitCount(both) > most) {
                    most = Integer.bitCount(both);
                    told.start();
                    told.add(one);
                    told.add(other);
                    told.add(both);
                }
            }
        }
        return most;
    }

    // ---- how all is said

    public int order(int things, int not) {
        if (!areThings(things) || (things & now.said) != 0 || (not != NONE && !people.has(not))) {
            return NONE;
        }
        int minutes = search.fewestMinutes(things, now.hat, not);
        if (now.minute + minutes >= now.midnight) {
            return NOBODY;
        }
        told.start();
        search.tellTalks(things, now.hat, told);
        return minutes;
    }

    public int cover(int things) {
        if (!areThings(things)) {
            return NONE;
        }
        int best = NONE;
        for (int men = 0; men < 1 << people.men; men++) {
            boolean fewer = best == NONE || Integer.bitCount(men) < Integer.bitCount(best);
            if (fewer && (things & ~people.couldTogether(men)) == 0) {
                best = men;
            }
        }
        if (best == NONE) {
            return NOBODY;
        }
        told.start();
        told.add(best);
        return Integer.bitCount(best);
    }

    public int shares() {
        int most = search.mostShared(ALL_THINGS & ~now.said);
        told.start();
        search.tellShares(told);
        return most;
    }

    public int most(int man, int v) {
        if (!people.has(man) || v < 0 || v > LAST_MINUTE) {
            return NONE;
        }
        int pool = people.could[man] & ~now.said;
        int best = 0;
        for (int things = 1; things <= ALL_THINGS; things++) {
            if ((things & ~pool) == 0 && people.minutes(things) <= v && isMore(things, best)) {
                best = things;
            }
        }
        told.start();
        told.add(best);
        return Integer.bitCount(best);
    }

    public int fro(int one, int other) {
        if (!people.areTwo(one, other)) {
            return NONE;
        }
        if (now.hat == one) {
            return NOBODY;
        }
        int said = now.said;
        int minutes = 0;
        int talks = 0;
        for (int i = 0; i < THINGS; i++) {
            int thing = firstOf(people.could[talks % 2 == 0 ? one : other] & ~said);
            if (thing == NONE || now.minute + minutes + people.length[thing] >= now.midnight) {
                break;
            }
            said |= 1 << thing;
            minutes += people.length[thing];
            talks++;
        }
        told.start();
        told.add(minutes);
        told.add(talks % 2 == 0 ? one : other);
        return talks;
    }

    // ---- games of the last stroke

    public int game(int n, int a, int b) {
        if (n < 0 || n > LAST_MINUTE || !isLength(a) || !isLength(b)) {
            return NONE;
        }
        if (n == 0) {
            return NOBODY;
        }
        strokes.fill(a, b);
        return strokes.opening(n, a);
    }

    public int wins(int a, int b) {
        if (!isLength(a) || !isLength(b)) {
            return NONE;
        }
        strokes.fill(a, b);
        int won = 0;
        int lost = 0;
        for (int n = 1; n <= LAST_MINUTE; n++) {
            if (strokes.opening(n, a) > 0) {
                won++;
            } else {
                lost = n;
            }
        }
        told.start();
        told.add(lost);
        return won;
    }

    // ---- chances

    public int silent(int n, int k, int p, int v) {
        boolean fewMinutes = n >= 1 && n <= 10 && v >= 0 && v <= 10;
        if (!fewMinutes || k < 1 || k > 4 || p < 0 || p > 10 || n * k > 16) {
            return NONE;
        }
        long all = power(10, k);
        long still = power(10 - p, k);
        long ways = 1;
        long sum = 0;
        for (int j = 0; j <= n; j++) {
            if (j >= v) {
                sum += ways * power(still, j) * power(all - still, n - j);
            }
            ways = ways * (n - j) / (j + 1);
        }
        told.start();
        told.addFraction(sum, power(all, n));
        return 0;
    }

    public int lot(int man, int n) {
        if (!people.has(man) || n < 1 || n > 8) {
            return NONE;
        }
        if (people.men < 2) {
            return NOBODY;
        }
        long all = 1;
        long hits = now.hat == man ? 1 : 0;
        for (int i = 0; i < n; i++) {
            boolean free = i == 0 && now.hat == NONE;
            hits = free ? 1 : all - hits;
            all *= free ? people.men : people.men - 1;
        }
        told.start();
        told.addFraction(hits, all);
        return 0;
    }

    // ---- who it was

    public int heard(int what, int v) {
        return rumours.add(what, v);
    }

    public int forget() {
        return rumours.clear();
    }

    public int fits() {
        int fitting = rumours.fitting(people, now);
        told.start();
        told.add(Integer.bitCount(fitting));
        return fitting;
    }

    public int ask() {
        int fitting = rumours.fitting(people, now);
        if (fitting == 0) {
            return NOBODY;
        }
        int best = 0;
        int fewest = MEN + 1;
        for (int thing = 0; thing < THINGS; thing++) {
            int wanting = Integer.bitCount(fitting & people.wanting(thing));
            int left = Math.max(wanting, Integer.bitCount(fitting) - wanting);
            if (left < fewest) {
                fewest = left;
                best = thing;
            }
        }
        told.start();
        told.add(fewest);
        return best;
    }

    // ---- laws, rests, years

    public int law() {
        int bad = readRule();
        if (bad != NONE) {
            return -10000 - bad;
        }
        told.start();
        for (int man = 0; man < people.men; man++) {
            told.add(tried.eagerness(people, now, man));
        }
        return orNobody(now.speaker(people, tried));
    }

    public int rests(int v) {
        if (v < 0 || v > 9) {
            return NONE;
        }
        int pairs = 0;
        told.start();
        for (int x = 0; x <= 9; x++) {
            for (int y = 0; y <= 9; y++) {
                if (isBestAgainst(v, x, y) && isBestAgainst(v, y, x)) {
                    if (pairs == 0) {
                        told.add(x);
                        told.add(y);
                    }
                    pairs++;
                }
            }
        }
        return pairs;
    }

    public int years(int seed, int n) {
        if (n < 1 || n > LAST_MINUTE) {
            return NONE;
        }
        guess.copy(now);
        draws.start(seed);
        for (int i = 0; i < n; i++) {
            liveOn();
        }
        told.start();
        told.add(orNobody(guess.hat));
        told.add(guess.minute);
        return guess.evening - now.evening;
    }

    // ---- kept

    public boolean keep(int i) {
        return past.keepUnder(i, now);
    }

    public boolean again(int i) {
        return past.takeAgain(i, now);
    }

    public int count(int what) {
        switch (what) {
            case 0: return people.men;
            case 1: return now.hat;
            case 2: return now.minute;
            case 3: return now.midnight;
            case 4: return now.evening;
            case 5: return now.said;
            case 6: return sumOf(now.spoke);
            case 7: return sumOf(now.paid);
            case 8: return rumours.size;
            case 9: return past.size;
            case 10: return told.size;
            case 11: return text.size;
            default: return -100;
        }
    }

    public long row(int i) throws NoSuchElementException {
        if (i < 0 || i >= told.size) {
            throw new NoSuchElementException("no such number of the row");
        }
        return told.numbers[i];
    }

    // ---- helpers of the face

    /** Reads THE TEXT into the rule that is tried: NONE, or the place of its first bad sign. */
    private int readRule() {
        if (text.size == 0) {
            text.tell(FIRST_RULE);
        }
        int bad = tried.read();
        text.empty();
        return bad;
    }

    /** The place of the first sign that can't stand in an evening's text, or NONE. */
    private int badEveningSign() {
        int limit = Math.min(text.size, EVENING_SIGNS);
        int start = 0;
        for (int p = 0; p < limit; p++) {
            if (p == start + actSigns(text.at(start))) {
                start = p;
            }
            if (!standsInAct(text.at(start), p - start, text.at(p))) {
                return p;
            }
        }
        boolean cut = limit > 0 && limit - start < actSigns(text.at(start));
        return cut || text.size > EVENING_SIGNS ? limit : NONE;
    }

    private static int actSigns(int letter) {
        return letter == 'n' || letter == 'z' ? 2 : 3;
    }

    private static boolean standsInAct(int letter, int place, int sign) {
        if (place == 0) {
            return kindOf(sign) != NONE || sign == 'n';
        }
        boolean wantsThing = place == 2 && letter != 'q';
        return wantsThing ? sign >= 'a' && sign <= 'h' : isDigit(sign);
    }

    /** The KIND of talk that a letter of an evening's text tells, or NONE. */
    private static int kindOf(int letter) {
        switch (letter) {
            case 'w': return PLAIN;
            case 'z': return SNEEZE;
            case 'q': return QUESTION;
            case 'b': return ONE_BREATH;
            case 'c': return CUTTING_IN;
            default: return NONE;
        }
    }

    /** Does the act that begins at a place of THE TEXT: whether it was not refused. */
    private boolean act(int at) {
        int letter = text.at(at);
        int digit = text.at(at + 1) - '0';
        if (letter == 'n') {
            now.play(people, inForce, digit);
            return true;
        }
        int kind = kindOf(letter);
        int what = text.at(at + 2) - (kind == QUESTION ? '0' : 'a');
        if (now.refusal(people, digit, kind, what) != 0) {
            return false;
        }
        now.goOn(people, digit, kind, what);
        return true;
    }

    /** One of the things that years() draws, done to the guess. */
    private void liveOn() {
        int lot = draws.of(4);
        if (lot < 2) {
            guess.takeTurn(people, guess.speaker(people, inForce));
            return;
        }
        if (people.men == 0) {
            return;
        }
        int man = draws.of(people.men);
        int kind = lot == 2 ? SNEEZE : QUESTION;
        int other = kind == QUESTION ? draws.of(people.men) : NONE;
        if (guess.refusal(people, man, kind, other) == 0) {
            guess.goOn(people, man, kind, other);
        }
    }

    /** Whether things are more than others, or as many that last less long. */
    private boolean isMore(int things, int others) {
        int more = Integer.bitCount(things) - Integer.bitCount(others);
        return more > 0 || (more == 0 && people.minutes(things) < people.minutes(others));
    }

    private static boolean isBestAgainst(int v, int own, int other) {
        for (int x = 0; x <= 9; x++) {
            if (candleGain(v, x, other) > candleGain(v, own, other)) {
                return false;
            }
        }
        return true;
    }

    private static int candleGain(int v, int own, int other) {
        int price = own >= other ? own : own / 2;
        return v * Math.min(own + other, 9) - price;
    }

    private static int orNobody(int man) {
        return man == NONE ? NOBODY : man;
    }

    private static boolean isThing(int thing) {
        return thing >= 0 && thing < THINGS;
    }

    private static boolean areThings(int bits) {
        return bits >= 0 && bits <= ALL_THINGS;
    }

    private static boolean isLength(int v) {
        return v >= 1 && v <= LONGEST;
    }

    private static boolean isDigit(int sign) {
        return sign >= '0' && sign <= '9';
    }

    /** The first THING of some, or NONE. */
    private static int firstOf(int things) {
        for (int thing = 0; thing < THINGS; thing++) {
            if (((things >> thing) & 1) != 0) {
                return thing;
            }
        }
        return NONE;
    }

    private static int sumOf(int[] numbers) {
        int sum = 0;
        for (int number : numbers) {
            sum += number;
        }
        return sum;
    }

    private static long power(long base, int exponent) {
        long product = 1;
        for (int i = 0; i < exponent; i++) {
            product *= base;
        }
        return product;
    }

    /** THE TEXT. */
    private static final class Text {
        private static final int ROOM = 80;

        private final char[] signs = new char[ROOM];
        private int size = 0;

        int add(int v) {
            if (size > ROOM - 4) {
                return NONE;
            }
            for (int shift = 24; shift >= 0; shift -= 8) {
                put((char) ((v >>> shift) & 255));
            }
            return size;
        }

        void tell(String words) {
            for (int i = 0; i < words.length(); i++) {
                put(words.charAt(i));
            }
        }

        boolean cut(int n) {
            if (n < 0 || n > size) {
                return false;
            }
            size = n;
            return true;
        }

        void empty() {
            size = 0;
        }

        /** The sign at a place, or NONE where it has none. */
        int at(int p) {
            return p >= 0 && p < size ? signs[p] : NONE;
        }

        private void put(char sign) {
            if (size < ROOM) {
                signs[size] = sign;
                size++;
            }
        }
    }

    /** The numbers told last. */
    private static final class Row {
        /** Talks of an order are fewer than MIDNIGHT, two numbers each. */
        private static final int ROOM = 128;

        private final long[] numbers = new long[ROOM];
        private int size = 0;

        void start() {
            size = 0;
        }

        void add(long number) {
            if (size < ROOM) {
                numbers[size] = number;
                size++;
            }
        }

        void addFraction(long upper, long lower) {
            long common = lower;
            long rest = upper;
            for (int i = 0; i < 200 && rest != 0; i++) {
                long left = common % rest;
                common = rest;
                rest = left;
            }
            if (common != 0) {
                add(upper / common);
                add(lower / common);
            }
        }
    }

    /** What undo() leaves alone: councillors by BREATH and WANTS, and the LENGTHS of things. */
    private static final class People {
        private static final int SIGNS = 79;

        private int men = 0;
        private final int[] breath = new int[MEN];
        private final int[] wants = new int[MEN];
        /** What each could say by WANTS and BREATH alone. */
        private final int[] could = new int[MEN];
        private final int[] length = {1, 1, 1, 1, 1, 1, 1, 1};

        boolean has(int man) {
            return man >= 0 && man < men;
        }

        boolean areTwo(int one, int other) {
            return has(one) && has(other) && one != other;
        }

        /** The sum of the LENGTHS that a text tells, or -1 - p for its bad sign. */
        int readLengths(Text text) {
            for (int p = 0; p < THINGS; p++) {
                if (!isLength(text.at(p) - '0')) {
                    return -1 - p;
                }
            }
            if (text.size > THINGS) {
                return -1 - THINGS;
            }
            for (int thing = 0; thing < THINGS; thing++) {
                length[thing] = text.at(thing) - '0';
            }
            weigh();
            return sumOf(length);
        }

        /** How many LINES a text adds, or -1 - p for its bad sign: then none is added. */
        int readLines(Text text) {
            int limit = Math.min(text.size, SIGNS);
            int last = men - 1;
            boolean begins = true;
            int lowest = 0;
            for (int p = 0; p < limit; p++) {
                int sign = text.at(p);
                int letter = sign - 'a';
                if (begins) {
                    last++;
                    if (last >= MEN || !isLength(sign - '0')) {
                        return -1 - p;
                    }
                    // a place behind the last councillor is seen by nobody until men grows
                    breath[last] = sign - '0';
                    wants[last] = 0;
                    lowest = 0;
                    begins = false;
                } else if (sign == ';') {
                    begins = true;
                } else if (isThing(letter) && letter >= lowest && last >= 0 && last < MEN) {
                    wants[last] |= 1 << letter;
                    lowest = letter + 1;
                } else {
                    return -1 - p;
                }
            }
            if (text.size > SIGNS || (begins && limit > 0)) {
                return -1 - limit;
            }
            return settle(last + 1);
        }

        /** Sets each BREATH by a sheet of n entries: their sum. */
        int takeSheet(int kind, int n, int f, int step) {
            int sum = 0;
            for (int man = 0; man < men; man++) {
                int entry = man < n ? sheetEntry(kind, f + man * step) : 1;
                breath[man] = Math.max(1, Math.min(LONGEST, entry));
                sum += breath[man];
            }
            weigh();
            return sum;
        }

        int couldTogether(int some) {
            int things = 0;
            for (int man = 0; man < men; man++) {
                if (((some >> man) & 1) != 0) {
                    things |= could[man];
                }
            }
            return things;
        }

        int wanting(int thing) {
            int bits = 0;
            for (int man = 0; man < men; man++) {
                bits |= ((wants[man] >> thing) & 1) << man;
            }
            return bits;
        }

        int minutes(int things) {
            int sum = 0;
            for (int thing = 0; thing < THINGS; thing++) {
                sum += ((things >> thing) & 1) * length[thing];
            }
            return sum;
        }

        private int settle(int count) {
            int come = count - men;
            men = count;
            weigh();
            return come;
        }

        private void weigh() {
            for (int man = 0; man < men; man++) {
                could[man] = 0;
                for (int thing = 0; thing < THINGS; thing++) {
                    if (length[thing] <= breath[man]) {
                        could[man] |= wants[man] & (1 << thing);
                    }
                }
            }
        }

        private static int sheetEntry(int kind, int v) {
            if (kind == 0) {
                return (byte) v;
            }
            return kind == 1 ? (short) v : v;
        }
    }

    /** What undo() brings back, and how talk and turns change it. */
    private static final class Night {
        private int said = 0;
        private int hat = NONE;
        private int minute = 0;
        private int midnight = 20;
        private int evening = 0;
        private int had = 0;
        /** Who talked plain of what, if that was the latest talk of this evening; else NONE. */
        private int plainMan = NONE;
        private int plainThing = NONE;
        private final int[] spoke = new int[MEN];
        private final int[] paid = new int[MEN];

        void copy(Night other) {
            said = other.said;
            hat = other.hat;
            minute = other.minute;
            midnight = other.midnight;
            evening = other.evening;
            had = other.had;
            plainMan = other.plainMan;
            plainThing = other.plainThing;
            System.arraycopy(other.spoke, 0, spoke, 0, MEN);
            System.arraycopy(other.paid, 0, paid, 0, MEN);
        }

        int hadHat(int man) {
            return (had >> man) & 1;
        }

        int sayable(People people, int man) {
            boolean canNone = man == hat || man < 0 || man >= people.men;
            return canNone ? 0 : people.could[man] & ~said;
        }

        int sayers(People people, int thing) {
            int bits = 0;
            for (int man = 0; man < people.men; man++) {
                bits |= ((sayable(people, man) >> thing) & 1) << man;
            }
            return bits;
        }

        /** What talk() answers if it is refused, else 0. */
        int refusal(People people, int man, int kind, int what) {
            if (!people.has(man) || kind < PLAIN || kind > CUTTING_IN) {
                return NONE;
            }
            if (man == hat) {
                return -2;
            }
            return canTalk(people, man, kind, what) ? 0 : -3;
        }

        /** A talk that is not refused. */
        void goOn(People people, int man, int kind, int what) {
            int minutes = minutesOf(people, kind, what);
            spoke[man] = Math.min(spoke[man] + 1, MOST_COUNTED);
            hat = wearerAfter(man, kind, what);
            had |= 1 << hat;
            markSaid(kind, what);
            plainMan = kind == PLAIN ? man : NONE;
            plainThing = kind == PLAIN ? what : NONE;
            pass(minutes);
        }

        /** Who speaks in the next TURN by a rule, or NONE. */
        int speaker(People people, Rule rule) {
            int who = NONE;
            int most = 0;
            for (int man = 0; man < people.men; man++) {
                if (sayable(people, man) != 0) {
                    int eager = rule.eagerness(people, this, man);
                    if (who == NONE || eager > most) {
                        who = man;
                        most = eager;
                    }
                }
            }
            return who;
        }

        /** A TURN in which a councillor speaks, or NONE: a silence. */
        void takeTurn(People people, int who) {
            int thing = firstOf(sayable(people, who));
            if (thing == NONE) {
                pass(1);
            } else {
                goOn(people, who, PLAIN, thing);
            }
        }

        /** So many TURNS: how many of them were silences. */
        int play(People people, Rule rule, int turns) {
            int silences = 0;
            for (int i = 0; i < turns; i++) {
                int who = speaker(people, rule);
                takeTurn(people, who);
                silences += who == NONE ? 1 : 0;
            }
            return silences;
        }

        private boolean canSay(People people, int man, int thing) {
            return isThing(thing) && ((sayable(people, man) >> thing) & 1) != 0;
        }

        private boolean canTalk(People people, int man, int kind, int what) {
            switch (kind) {
                case PLAIN: return canSay(people, man, what);
                case SNEEZE: return true;
                case QUESTION: return people.areTwo(man, what) && what != hat;
                case ONE_BREATH: return canSay(people, man, what) && canSay(people, man, what + 1);
                case CUTTING_IN: return plainMan != NONE && plainMan != man && canSay(people, man, what);
                default: return false;
            }
        }

        private static int minutesOf(People people, int kind, int what) {
            switch (kind) {
                case PLAIN: return people.minutes(1 << what);
                case ONE_BREATH: return (people.minutes(3 << what) + 1) / 2;
                case CUTTING_IN: return (people.minutes(1 << what) + 1) / 2;
                default: return 1;
            }
        }

        private int wearerAfter(int man, int kind, int what) {
            if (kind == QUESTION) {
                return what;
            }
            return kind == CUTTING_IN ? plainMan : man;
        }

        private void markSaid(int kind, int what) {
            if (kind == PLAIN) {
                said |= 1 << what;
            } else if (kind == ONE_BREATH) {
                said |= 3 << what;
            } else if (kind == CUTTING_IN) {
                said |= 1 << what;
                said &= ~(1 << plainThing);
            }
        }

        private void pass(int minutes) {
            minute += minutes;
            if (minute >= midnight) {
                strike();
            }
        }

        private void strike() {
            if (hat >= 0 && hat < MEN) {
                paid[hat] = Math.min(paid[hat] + 1, MOST_COUNTED);
            }
            hat = NONE;
            said = 0;
            minute = 0;
            evening++;
            // the latest talk was of the evening that has gone
            plainMan = NONE;
            plainThing = NONE;
        }
    }

    /** What can be undone, and what is kept under numbers. */
    private static final class Past {
        private static final int ROOM = 15;
        private static final int KEPT = 3;

        private final Night[] steps = new Night[ROOM];
        private int size = 0;
        private final Night[] kept = new Night[KEPT];
        private final boolean[] holds = new boolean[KEPT];

        Past() {
            for (int i = 0; i < ROOM; i++) {
                steps[i] = new Night();
            }
            for (int i = 0; i < KEPT; i++) {
                kept[i] = new Night();
            }
        }

        void remember(Night night) {
            if (size == ROOM) {
                dropOldest();
            }
            steps[size].copy(night);
            size++;
        }

        /** How many are left, or NONE if there was none. */
        int bringBack(Night night) {
            if (size == 0) {
                return NONE;
            }
            size--;
            night.copy(steps[size]);
            return size;
        }

        boolean keepUnder(int i, Night night) {
            if (i < 0 || i >= KEPT) {
                return false;
            }
            kept[i].copy(night);
            holds[i] = true;
            return true;
        }

        boolean takeAgain(int i, Night night) {
            if (i < 0 || i >= KEPT || !holds[i]) {
                return false;
            }
            night.copy(kept[i]);
            size = 0;
            return true;
        }

        void forgetAll() {
            size = 0;
            for (int i = 0; i < KEPT; i++) {
                holds[i] = false;
            }
        }

        private void dropOldest() {
            Night oldest = steps[0];
            for (int i = 1; i < ROOM; i++) {
                steps[i - 1] = steps[i];
            }
            steps[ROOM - 1] = oldest;
            size--;
        }
    }

    /** A rule of EAGERNESS, kept as acts on a stack. */
    private static final class Rule {
        private static final int SIGNS = 40;
        private static final int DEEPEST = 4;
        /** Acts below this are numbers; from it on letters, then signs of two, then the minus ahead. */
        private static final int LETTER = 1000;
        private static final int TWO = 2000;
        private static final int MINUS = 3000;

        private final Text text;
        /** Each act comes from a sign of its own, so SIGNS are room enough. */
        private final int[] acts = new int[SIGNS];
        private int size = 0;
        /** Acts and brackets that wait while the text is read; numbers while EAGERNESS is reckoned. */
        private final int[] stack = new int[SIGNS];
        private int top = 0;
        private int brackets = 0;
        private int digits = 0;
        private boolean partIsDue = true;

        Rule(Text text) {
            this.text = text;
        }

        /** Reads the text: NONE, or the place of the sign that can't stand there. */
        int read() {
            size = 0;
            top = 0;
            brackets = 0;
            digits = 0;
            partIsDue = true;
            int limit = Math.min(text.size, SIGNS);
            for (int p = 0; p < limit; p++) {
                int sign = text.at(p);
                if (partIsDue ? !takesPart(sign) : !takesJoin(sign)) {
                    return p;
                }
            }
            if (partIsDue || brackets > 0 || text.size > SIGNS) {
                return limit;
            }
            release(1);
            return NONE;
        }

        int eagerness(People people, Night night, int man) {
            top = 0;
            for (int i = 0; i < size; i++) {
                int act = acts[i];
                if (act < LETTER) {
                    push(act);
                } else if (act < TWO) {
                    push(valueOf(act - LETTER, people, night, man));
                } else if (act == MINUS) {
                    push(-pop());
                } else {
                    int right = pop();
                    push(joined(act - TWO, pop(), right));
                }
            }
            return pop();
        }

        /** Takes a sign where a number, a letter, a bracket or a minus ahead of these is due. */
        private boolean takesPart(int sign) {
            if (sign == '-') {
                push(MINUS);
                return true;
            }
            if (sign == '(') {
                brackets++;
                push('(');
                return brackets <= DEEPEST;
            }
            partIsDue = false;
            if (isDigit(sign)) {
                digits = 1;
                put(sign - '0');
                return true;
            }
            digits = 0;
            put(LETTER + sign);
            return isLetter(sign);
        }

        /** Takes a sign behind such a part. */
        private boolean takesJoin(int sign) {
            if (isDigit(sign)) {
                return lengthensNumber(sign - '0');
            }
            digits = 0;
            if (sign == ')') {
                return closesBracket();
            }
            int bond = bondOf(TWO + sign);
            if (bond == 0) {
                return false;
            }
            // comparisons do not stand one behind the other: one that waits is in the way
            release(bond == 1 ? 2 : bond);
            if (bond == 1 && bondOf(waiting()) == 1) {
                return false;
            }
            push(TWO + sign);
            partIsDue = true;
            return true;
        }

        private boolean lengthensNumber(int digit) {
            if (digits < 1 || digits > 2 || size < 1) {
                return false;
            }
            digits++;
            acts[size - 1] = acts[size - 1] * 10 + digit;
            return true;
        }

        private boolean closesBracket() {
            if (brackets == 0) {
                return false;
            }
            brackets--;
            release(1);
            pop();
            return true;
        }

        /** Acts that wait and bind no less than a bond are put, the latest first, back to a bracket. */
        private void release(int bond) {
            for (int i = 0; i < SIGNS && bondOf(waiting()) >= bond; i++) {
                put(pop());
            }
        }

        /** How strongly an act binds; 0: a bracket, or nothing that joins. */
        private static int bondOf(int act) {
            switch (act) {
                case TWO + '<': case TWO + '>': case TWO + '=': return 1;
                case TWO + '+': case TWO + '-': return 2;
                case TWO + '*': case TWO + '/': return 3;
                case MINUS: return 4;
                default: return 0;
            }
        }

        private int waiting() {
            return top > 0 ? stack[top - 1] : NONE;
        }

        private void push(int number) {
            if (top < SIGNS) {
                stack[top] = number;
                top++;
            }
        }

        private int pop() {
            if (top == 0) {
                return 0;
            }
            top--;
            return stack[top];
        }

        private void put(int act) {
            if (size < SIGNS) {
                acts[size] = act;
                size++;
            }
        }

        private static boolean isLetter(int sign) {
            return sign == 'w' || sign == 'b' || sign == 't' || sign == 'p'
                || sign == 'h' || sign == 'm' || sign == 'l';
        }

        private static int valueOf(int letter, People people, Night night, int man) {
            switch (letter) {
                case 'w': return Integer.bitCount(night.sayable(people, man));
                case 'b': return people.breath[man];
                case 't': return night.spoke[man];
                case 'p': return night.paid[man];
                case 'h': return night.hadHat(man);
                case 'm': return night.minute;
                case 'l': return night.midnight - night.minute;
                default: return 0;
            }
        }

        private static int joined(int sign, int left, int right) {
            switch (sign) {
                case '<': return left < right ? 1 : 0;
                case '>': return left > right ? 1 : 0;
                case '=': return left == right ? 1 : 0;
                case '+': return left + right;
                case '-': return left - right;
                case '*': return left * right;
                case '/': return right == 0 ? 0 : left / right;
                default: return 0;
            }
        }
    }

    /** What was heard of somebody. */
    private static final class Rumours {
        private static final int ROOM = 12;

        private final int[] whats = new int[ROOM];
        private final int[] values = new int[ROOM];
        private int size = 0;

        int add(int what, int v) {
            if (size >= ROOM || !canBe(what, v)) {
                return NONE;
            }
            whats[size] = what;
            values[size] = v;
            size++;
            return size;
        }

        int clear() {
            int were = size;
            size = 0;
            return were;
        }

        /** Those (bits) whom all of it fits. */
        int fitting(People people, Night night) {
            int bits = 0;
            for (int man = 0; man < people.men; man++) {
                if (fitsAll(people, night, man)) {
                    bits |= 1 << man;
                }
            }
            return bits;
        }

        private boolean fitsAll(People people, Night night, int man) {
            for (int i = 0; i < size; i++) {
                if (!fitsOne(people, night, man, i)) {
                    return false;
                }
            }
            return true;
        }

        private boolean fitsOne(People people, Night night, int man, int i) {
            int v = values[i];
            switch (whats[i]) {
                case 0: return ((people.wants[man] >> v) & 1) != 0;
                case 1: return people.breath[man] >= v;
                case 2: return night.spoke[man] <= v;
                case 3: return night.hadHat(man) == v;
                default: return night.paid[man] == v;
            }
        }

        private static boolean canBe(int what, int v) {
            switch (what) {
                case 0: return isThing(v);
                case 1: return isLength(v);
                case 2: return v >= 0 && v <= MOST_COUNTED;
                case 3: return v == 0 || v == 1;
                case 4: return v >= 0 && v <= MOST_COUNTED;
                default: return false;
            }
        }
    }

    /** How all is said soonest, and how things are shared out: one table serves both. */
    private static final class Search {
        private static final int SETS = 256;
        /** A column for each wearer and one for nobody. */
        private static final int WEARERS = MEN + 1;
        /** What a sneeze is told as in place of a thing. */
        private static final int SNEEZED = 8;
        /** More minutes than any evening has. */
        private static final int NEVER = 1000;

        private final People people;
        private final int[] table = new int[SETS * WEARERS];
        /** By who talks next, the fewest minutes; then by who wears the hat, without a sneeze. */
        private final int[] firsts = new int[MEN];
        private final int[] plains = new int[WEARERS];

        Search(People people) {
            this.people = people;
        }

        /** The fewest minutes till things are said and one does not wear the hat; NEVER or more: it can't be. */
        int fewestMinutes(int things, int hat, int not) {
            for (int set = 0; set <= things; set++) {
                if ((set & ~things) == 0) {
                    fillPlains(set, not);
                    fillWithSneezes(set);
                }
            }
            return table[place(things, hat)];
        }

        /** The talks of the least row, once fewestMinutes() has been asked for the same. */
        void tellTalks(int things, int hat, Row row) {
            int set = things;
            int wearer = hat;
            for (int i = 0; i < LAST_MINUTE && table[place(set, wearer)] > 0; i++) {
                int talk = leastTalk(set, wearer);
                if (talk == NONE) {
                    return;
                }
                wearer = talk / WEARERS;
                row.add(wearer);
                row.add(talk % WEARERS);
                set = without(set, talk % WEARERS);
            }
        }

        /** The most of some things that can be shared out. */
        int mostShared(int things) {
            int groups = 1 << people.men;
            for (int used = 0; used < groups; used++) {
                table[THINGS * SETS + used] = 0;
            }
            for (int thing = THINGS - 1; thing >= 0; thing--) {
                boolean open = ((things >> thing) & 1) != 0;
                for (int used = 0; used < groups; used++) {
                    int least = table[(thing + 1) * SETS + used];
                    table[thing * SETS + used] = open ? Math.max(least, mostWithTaker(thing, used)) : least;
                }
            }
            return table[0];
        }

        /** The least row of shares, once mostShared() has been asked. */
        void tellShares(Row row) {
            int used = 0;
            for (int thing = 0; thing < THINGS; thing++) {
                int taker = leastTaker(thing, used);
                row.add(taker);
                if (taker != NONE) {
                    used |= 1 << taker;
                }
            }
        }

        private void fillPlains(int set, int not) {
            for (int man = 0; man < people.men; man++) {
                firsts[man] = fewestIfFirst(set, man);
            }
            int soonest = soonestOf(firsts, NONE);
            for (int wearer = 0; wearer < WEARERS; wearer++) {
                if (set == 0) {
                    plains[wearer] = wearer == not ? NEVER : 0;
                } else {
                    plains[wearer] = fewestBeside(firsts, soonest, wearer);
                }
            }
        }

        /** One sneeze is enough: a second one would come back, or could have come first. */
        private void fillWithSneezes(int set) {
            int soonest = soonestOf(plains, NONE);
            for (int wearer = 0; wearer < WEARERS; wearer++) {
                int sneezed = 1 + fewestBeside(plains, soonest, wearer);
                table[place(set, wearer)] = Math.min(plains[wearer], sneezed);
            }
        }

        private int fewestIfFirst(int set, int man) {
            int fewest = NEVER;
            for (int thing = 0; thing < THINGS; thing++) {
                fewest = Math.min(fewest, minutesBy(set, man, thing));
            }
            return fewest;
        }

        /** Minutes till all is said if a councillor says a thing next (SNEEZED: sneezes), NEVER if he can't. */
        private int minutesBy(int set, int man, int thing) {
            if (thing == SNEEZED) {
                return 1 + table[place(set, man)];
            }
            if ((set & people.could[man] & (1 << thing)) == 0) {
                return NEVER;
            }
            return people.length[thing] + table[place(without(set, thing), man)];
        }

        /** The least talk by which the fewest minutes are kept: councillor times WEARERS and thing. */
        private int leastTalk(int set, int wearer) {
            int fewest = table[place(set, wearer)];
            for (int man = 0; man < people.men; man++) {
                for (int thing = 0; thing <= SNEEZED; thing++) {
                    if (man != wearer && minutesBy(set, man, thing) == fewest) {
                        return man * WEARERS + thing;
                    }
                }
            }
            return NONE;
        }

        /** The first councillor but one with the fewest minutes, or NONE. */
        private int soonestOf(int[] minutes, int but) {
            int soonest = NONE;
            for (int man = 0; man < people.men; man++) {
                if (man != but && (soonest == NONE || minutes[man] < minutes[soonest])) {
                    soonest = man;
                }
            }
            return soonest;
        }

        private int fewestBeside(int[] minutes, int soonest, int wearer) {
            int man = wearer == soonest ? soonestOf(minutes, wearer) : soonest;
            return man == NONE ? NEVER : minutes[man];
        }

        private int mostWithTaker(int thing, int used) {
            int most = 0;
            for (int man = 0; man < people.men; man++) {
                if (canTake(thing, used, man)) {
                    most = Math.max(most, 1 + table[(thing + 1) * SETS + (used | 1 << man)]);
                }
            }
            return most;
        }

        private int leastTaker(int thing, int used) {
            int most = table[thing * SETS + used];
            if (table[(thing + 1) * SETS + used] == most) {
                return NONE;
            }
            for (int man = 0; man < people.men; man++) {
                if (canTake(thing, used, man) && 1 + table[(thing + 1) * SETS + (used | 1 << man)] == most) {
                    return man;
                }
            }
            return NONE;
        }

        private boolean canTake(int thing, int used, int man) {
            return ((used >> man) & 1) == 0 && ((people.could[man] >> thing) & 1) != 0;
        }

        private static int without(int set, int thing) {
            return thing == SNEEZED ? set : set & ~(1 << thing);
        }

        private static int place(int set, int wearer) {
            return set * WEARERS + (wearer == NONE ? MEN : wearer);
        }
    }

    /** The game in which who talks as the last minute goes pays. */
    private static final class Strokes {
        /** By minutes left, whether the one who talks next never pays. */
        private final boolean[] firstWins = new boolean[LAST_MINUTE + 1];
        private final boolean[] otherWins = new boolean[LAST_MINUTE + 1];

        void fill(int a, int b) {
            // with none left the one before has taken the last
            firstWins[0] = true;
            otherWins[0] = true;
            for (int n = 1; n <= LAST_MINUTE; n++) {
                firstWins[n] = winning(otherWins, n, a) > 0;
                otherWins[n] = winning(firstWins, n, b) > 0;
            }
        }

        /** The fewest minutes that win for the first one, 0: none do. */
        int opening(int n, int a) {
            return winning(otherWins, n, a);
        }

        private static int winning(boolean[] rivalWins, int n, int longest) {
            for (int k = 1; k <= longest && k <= n && n < rivalWins.length; k++) {
                if (!rivalWins[n - k]) {
                    return k;
                }
            }
            return 0;
        }
    }

    /** Numbers drawn by a seed. */
    private static final class Draws {
        private int r = 0;

        void start(int seed) {
            r = seed;
        }

        int of(int n) {
            r = r * 1103515245 + 12345;
            return n < 1 ? 0 : (r >>> 16) % n;
        }
    }
}
