import java.util.Arrays;

/**
 * A land of people who send cards at Yule only to who sends. The promises are told in DOC.md; the words
 * LAND, PAIR, STATE, RULE, ROUND and so on mean what its terms say. Sides, where they stand together in one
 * number, are bits: 1 is side 0, 2 is side 1.
 */
public final class CardsAtYule {
    public static final int NONE = -1;

    private static final int NO_SUCH = -2;
    private static final int BELOW_NOTHING = -3;
    private static final int FAULTY = -4;
    private static final int EMPTY = -6;
    private static final int BEYOND = -7;
    private static final int UNLIKE_WIDTHS = -8;
    private static final int NO_ODDS = -100;

    private static final int MOST_YEARS = 40;
    private static final int MOST_PEOPLE = 10;
    private static final int MOST_PAIRS = 16;
    private static final int RULES = 16;
    private static final int RETURN_RULES = 32;
    private static final int STATES = 16;
    private static final int MOST_FORGETS = 50;
    private static final int MOST_IMAGES = 3;
    private static final int MOST_CHANCE_YEARS = 3;
    private static final int MOST_WILL_YEARS = 12;
    private static final int MOST_SEED = 2_000_000_000;
    private static final int MOST_LIVES = 20;
    private static final int BOTH_SIDES = 3;
    private static final int SEEN_WIDTH = 3;

    private final Tape tape = new Tape();
    private final Land land = new Land();
    private final Land[] images = new Land[MOST_IMAGES];
    private final Book book = new Book();
    private final Course course = new Course();
    private final Fate fates = new Fate();
    private final Chances chances = new Chances();
    private final Will will = new Will();
    private final Slots slots = new Slots();
    private final Seen seen = new Seen();
    private final Lives drawn = new Lives();

    public CardsAtYule() {
    }

    public int feed(int a, int b, int c, int d, int e) {
        if (tape.length + Tape.FEED > Tape.MOST) {
            return NONE;
        }
        tape.push(a);
        tape.push(b);
        tape.push(c);
        tape.push(d);
        tape.push(e);
        return tape.length;
    }

    public int end(int n) {
        if (n < 0 || n > tape.length) {
            return NONE;
        }
        tape.length = n;
        return n;
    }

    public int land() {
        if (!tape.read()) {
            return FAULTY;
        }
        land.copyFrom(tape.told);
        book.stale = true;
        tape.length = 0;
        return land.lines;
    }

    public int fault(int what) {
        if (what == 0) {
            return tape.fault;
        }
        return what == 1 ? tape.place : NONE;
    }

    public int person(int person, int what) {
        if (!land.hasPerson(person)) {
            return NO_SUCH;
        }
        switch (what) {
            case 0: return land.rule[person];
            case 1: return land.returns[person];
            case 2: return land.forgets[person];
            case 3: return land.death[person];
            case 4: return land.move[person];
            default: return NO_SUCH;
        }
    }

    public int pair(int pair, int what) {
        if (!land.hasPair(pair)) {
            return NO_SUCH;
        }
        switch (what) {
            case 0: return land.who[2 * pair];
            case 1: return land.who[2 * pair + 1];
            case 2: return land.begun[pair];
            default: return NO_SUCH;
        }
    }

    public int of(int person, int other) {
        if (!land.hasPerson(person) || !land.hasPerson(other) || person == other) {
            return NO_SUCH;
        }
        return land.pairOf(person, other);
    }

    public int does(int rule, int last, int ahead) {
        if (!isBelow(rule, RULES) || !isBit(last) || !isBit(ahead)) {
            return NO_SUCH;
        }
        return rule >> (last + 2 * ahead) & 1;
    }

    public int sends(int pair, int side, int year) {
        if (!hasYearOf(pair, side, year)) {
            return NO_SUCH;
        }
        Book now = refreshed();
        int index = 2 * pair + side;
        if (isAt(now.first[index], year)) {
            return 1;
        }
        return isAt(now.back[index], year) ? 2 : 0;
    }

    public int got(int pair, int side, int year) {
        if (!hasYearOf(pair, side, year)) {
            return NO_SUCH;
        }
        return isAt(refreshed().got[2 * pair + side], year) ? 1 : 0;
    }

    public int state(int pair, int year) {
        if (!land.hasPair(pair) || year < 0 || year > land.years) {
            return NO_SUCH;
        }
        return refreshed().stateAhead(land, pair, year);
    }

    public int cards(int year, int what) {
        if (!land.hasYear(year) || !isBelow(what, 3)) {
            return NO_SUCH;
        }
        int sent = refreshed().sentIn(land, year);
        int come = book.comeIn(land, year);
        if (what == 0) {
            return sent;
        }
        return what == 1 ? come : sent - come;
    }

    public int list(int person, int year) {
        if (!land.hasPerson(person) || !land.hasYear(year)) {
            return NO_SUCH;
        }
        Book now = refreshed();
        int sent = 0;
        for (int index = 0; index < 2 * land.pairs; index++) {
            if (land.who[index] == person && isAt(now.sentOf(index), year)) {
                sent++;
            }
        }
        return sent;
    }

    public int mantel(int person, int year) {
        if (!land.hasPerson(person) || !land.hasYear(year)) {
            return NO_SUCH;
        }
        return Integer.bitCount(sendersTo(person, year));
    }

    public int whose(int person, int year) {
        if (!land.hasPerson(person) || !land.hasYear(year)) {
            return NO_SUCH;
        }
        return sendersTo(person, year);
    }

    public int hurts(int person, int what) {
        if (!land.hasPerson(person) || !isBelow(what, 2)) {
            return NO_SUCH;
        }
        Book now = refreshed();
        int times = 0;
        for (int index = 0; index < 2 * land.pairs; index++) {
            if (land.who[index] == person) {
                long sent = now.sentOf(index);
                long came = now.got[index];
                times += Long.bitCount(what == 0 ? sent & ~came : came & ~sent);
            }
        }
        return times;
    }

    public int cost(int person) {
        if (!land.hasPerson(person)) {
            return NO_SUCH;
        }
        return refreshed().costOf(land, person);
    }

    public int dearest() {
        if (!land.isThere()) {
            return NO_SUCH;
        }
        Book now = refreshed();
        int dearest = NONE;
        int most = NONE;
        for (int person = 0; person < land.people; person++) {
            int cost = now.costOf(land, person);
            if (cost > most) {
                most = cost;
                dearest = person;
            }
        }
        return dearest;
    }

    public int last(int pair) {
        if (!land.hasPair(pair)) {
            return NO_SUCH;
        }
        return highest(refreshed().sentByAny(pair));
    }

    public int over() {
        if (!land.isThere()) {
            return NO_SUCH;
        }
        Book now = refreshed();
        int silent = 0;
        for (int pair = 0; pair < land.pairs; pair++) {
            if (!isAt(now.sentByAny(pair), land.years - 1)) {
                silent++;
            }
        }
        return silent;
    }

    public int poorest() {
        if (!land.isThere()) {
            return NO_SUCH;
        }
        Book now = refreshed();
        int poorest = 0;
        for (int year = 1; year < land.years; year++) {
            if (now.sentIn(land, year) < now.sentIn(land, poorest)) {
                poorest = year;
            }
        }
        return poorest;
    }

    public int odds(int pair) {
        if (!land.hasPair(pair)) {
            return NO_ODDS;
        }
        Book now = refreshed();
        return Long.bitCount(now.sentOf(2 * pair)) - Long.bitCount(now.sentOf(2 * pair + 1));
    }

    public int streak(int pair, int what) {
        if (!land.hasPair(pair) || !isBelow(what, 2)) {
            return NO_SUCH;
        }
        Book now = refreshed();
        long bothGot = now.got[2 * pair] & now.got[2 * pair + 1];
        int row = 0;
        int longestRow = 0;
        int from = NONE;
        for (int year = 0; year < land.years; year++) {
            row = isAt(bothGot, year) ? row + 1 : 0;
            if (row > longestRow) {
                longestRow = row;
                from = year - row + 1;
            }
        }
        return what == 0 ? longestRow : from;
    }

    public int fate(int rule, int other, int state, int what) {
        if (!areRules(rule, other) || !isBelow(state, STATES) || !isBelow(what, 4)) {
            return NO_SUCH;
        }
        fates.find(rule, other, state);
        return fates.tell(what);
    }

    public int goes(int pair, int what) {
        if (!land.hasPair(pair) || !isBelow(what, 4)) {
            return NO_SUCH;
        }
        findFateOf(pair, land.begun[pair]);
        return fates.tell(what);
    }

    public int basin(int rule, int other, int what) {
        if (!areRules(rule, other) || !isBelow(what, 3)) {
            return NO_SUCH;
        }
        int states = 0;
        for (int state = 0; state < STATES; state++) {
            fates.find(rule, other, state);
            if (fates.kind() == what) {
                states++;
            }
        }
        return states;
    }

    public int longest(int rule, int other) {
        if (!areRules(rule, other)) {
            return NO_SUCH;
        }
        int longestRound = 0;
        for (int state = 0; state < STATES; state++) {
            fates.find(rule, other, state);
            longestRound = Math.max(longestRound, fates.length);
        }
        return longestRound;
    }

    public int faithful(int rule) {
        if (!isBelow(rule, RETURN_RULES)) {
            return NO_SUCH;
        }
        int rules = 0;
        for (int other = 0; other < RETURN_RULES; other++) {
            if (!fates.everDies(rule, other)) {
                rules++;
            }
        }
        return rules;
    }

    public int lost(int pair, int side, int i) {
        if (!land.hasPair(pair) || !isBit(side) || i < 0) {
            return NO_SUCH;
        }
        findFateOf(pair, land.begun[pair]);
        if (i >= fates.length) {
            return NO_SUCH;
        }
        findFateOf(pair, fates.withLoss(i, side));
        return fates.kind();
    }

    public int back(int pair, int side) {
        if (!land.hasPair(pair) || !isBit(side)) {
            return NO_SUCH;
        }
        findFateOf(pair, land.begun[pair]);
        int round = fates.round;
        int length = fates.length;
        int years = 0;
        for (int i = 0; i < length; i++) {
            findFateOf(pair, round);
            findFateOf(pair, fates.withLoss(i, side));
            if (fates.isIn(round)) {
                years |= 1 << i;
            }
        }
        return years;
    }

    public int strike(int year) {
        return land.hasYear(year) ? turnedByStrike(year, false) : NO_SUCH;
    }

    public int saves(int year) {
        return land.hasYear(year) ? turnedByStrike(year, true) : NO_SUCH;
    }

    public int mildest() {
        if (!land.isThere()) {
            return NO_SUCH;
        }
        int mildest = 0;
        int fewest = MOST_PAIRS + 1;
        for (int year = 0; year < land.years; year++) {
            int ended = turnedByStrike(year, false);
            if (ended < fewest) {
                fewest = ended;
                mildest = year;
            }
        }
        return mildest;
    }

    public long alive(int pair, int n, int what) {
        if (!isChance(pair, n, what)) {
            return NO_SUCH;
        }
        chances.goThrough(land, pair, n);
        return chances.fraction(chances.any, what);
    }

    public long both(int pair, int n, int what) {
        if (!isChance(pair, n, what)) {
            return NO_SUCH;
        }
        chances.goThrough(land, pair, n);
        return chances.fraction(chances.bothSend, what);
    }

    public long mean(int pair, int n, int what) {
        if (!isChance(pair, n, what)) {
            return NO_SUCH;
        }
        chances.goThrough(land, pair, n);
        return chances.fraction(chances.cardsSent, what);
    }

    public int ending(int pair, int side, int n) {
        if (!isWill(pair, side, n)) {
            return NO_SUCH;
        }
        will.planEnd(land, pair, side, n, fates);
        return will.least();
    }

    public int step(int pair, int side, int n, int i) {
        if (!isWill(pair, side, n) || !isBelow(i, n)) {
            return NO_SUCH;
        }
        will.planEnd(land, pair, side, n, fates);
        return will.choiceIn(i);
    }

    public int keeping(int pair, int side, int n) {
        if (!isWill(pair, side, n)) {
            return NO_SUCH;
        }
        will.planKeep(land, pair, side, n);
        return will.least();
    }

    public int pen(int pair, int side, int n, int i) {
        if (!isWill(pair, side, n) || !isBelow(i, n)) {
            return NO_SUCH;
        }
        will.planKeep(land, pair, side, n);
        return will.choiceIn(i);
    }

    public int quit(int pair, int side, int year) {
        if (!hasYearOf(pair, side, year)) {
            return NO_SUCH;
        }
        return hurtsByQuitting(pair, side, year);
    }

    public int when(int pair, int side) {
        if (!land.hasPair(pair) || !isBit(side)) {
            return NO_SUCH;
        }
        int least = 0;
        int fewest = MOST_YEARS + 1;
        for (int year = 0; year < land.years; year++) {
            int hurt = hurtsByQuitting(pair, side, year);
            if (hurt < fewest) {
                fewest = hurt;
                least = year;
            }
        }
        return least;
    }

    public int best(int person) {
        return land.hasPerson(person) ? cheapestRule(1 << person) : NO_SUCH;
    }

    public int bestCost(int person) {
        return land.hasPerson(person) ? costWith(1 << person, cheapestRule(1 << person)) : NO_SUCH;
    }

    public int family(int set) {
        return land.hasSet(set) ? cheapestRule(set) : NO_SUCH;
    }

    public int together(int set) {
        return land.hasSet(set) ? costWith(set, cheapestRule(set)) : NO_SUCH;
    }

    public int fits(int slot, int pair) {
        int refusal = readSeen(slot, pair);
        if (refusal != 0) {
            return refusal;
        }
        course.take(land, pair);
        int ways = 0;
        for (int rule = 0; rule < RETURN_RULES; rule++) {
            for (int other = 0; other < RETURN_RULES; other++) {
                if (seen.mayCome(course, rule, other)) {
                    ways++;
                }
            }
        }
        return ways;
    }

    public long which(int slot, int pair, int side) {
        if (!isBit(side)) {
            return NO_SUCH;
        }
        int refusal = readSeen(slot, pair);
        if (refusal != 0) {
            return refusal;
        }
        course.take(land, pair);
        long rules = 0;
        for (int rule = 0; rule < RETURN_RULES; rule++) {
            for (int other = 0; other < RETURN_RULES; other++) {
                int own = side == 0 ? rule : other;
                if (!isAt(rules, own) && seen.mayCome(course, rule, other)) {
                    rules |= 1L << own;
                }
            }
        }
        return rules;
    }

    public int begun(int slot, int pair) {
        int refusal = readSeen(slot, pair);
        if (refusal != 0) {
            return refusal;
        }
        course.take(land, pair);
        int states = 0;
        for (int state = 0; state < STATES; state++) {
            course.begun = state;
            if (seen.mayCome(course, course.rule[0], course.rule[1])) {
                states |= 1 << state;
            }
        }
        return states;
    }

    public int odd(int slot, int pair) {
        int refusal = readSeen(slot, pair);
        if (refusal != 0) {
            return refusal;
        }
        Book now = refreshed();
        for (int i = 0; i < slots.size[slot]; i += SEEN_WIDTH) {
            int year = (int) slots.numberAt(slot, i);
            boolean side0 = isAt(now.got[2 * pair], year) == (slots.numberAt(slot, i + 1) == 1);
            boolean side1 = isAt(now.got[2 * pair + 1], year) == (slots.numberAt(slot, i + 2) == 1);
            if (!side0 || !side1) {
                return i / SEEN_WIDTH;
            }
        }
        return NONE;
    }

    public int life(int seed, int what) {
        if (!land.isThere() || !isSeed(seed) || !isBelow(what, 3)) {
            return NO_SUCH;
        }
        drawn.draw(land, seed);
        if (what == 0) {
            return drawn.sent;
        }
        return what == 1 ? drawn.silentAtLast(land) : drawn.forgot;
    }

    public int lives(int seed, int pair) {
        if (!land.hasPair(pair) || !isSeed(seed)) {
            return NO_SUCH;
        }
        drawn.draw(land, seed);
        return drawn.lastSent[pair];
    }

    public int lasts(int seed, int n, int pair) {
        if (!land.hasPair(pair) || !isSeed(seed) || n < 1 || n > MOST_LIVES) {
            return NO_SUCH;
        }
        int lasting = 0;
        for (int i = 0; i < n; i++) {
            drawn.draw(land, seed + i);
            if (drawn.lastSent[pair] == land.years - 1) {
                lasting++;
            }
        }
        return lasting;
    }

    public int train(int person, int what, int n) {
        if (!land.hasPerson(person)) {
            return NO_SUCH;
        }
        switch (what) {
            case 0: return trainIn(land.rule, person, n, RULES - 1);
            case 1: return trainIn(land.returns, person, n, 1);
            case 2: return trainIn(land.forgets, person, n, MOST_FORGETS);
            default: return NO_SUCH;
        }
    }

    public int begin(int pair, int state) {
        if (!land.hasPair(pair)) {
            return NO_SUCH;
        }
        return trainIn(land.begun, pair, state, STATES - 1);
    }

    public int lose(int pair, int side, int year, int is) {
        if (!hasYearOf(pair, side, year) || !isBit(is)) {
            return NO_SUCH;
        }
        int index = 2 * pair + side;
        int was = isAt(land.lost[index], year) ? 1 : 0;
        land.lost[index] = withBit(land.lost[index], year, is);
        book.stale = true;
        return was;
    }

    public int calls(int year, int is) {
        if (!land.hasYear(year) || !isBit(is)) {
            return NO_SUCH;
        }
        int was = isAt(land.strikes, year) ? 1 : 0;
        land.strikes = withBit(land.strikes, year, is);
        book.stale = true;
        return was;
    }

    public int count(int what) {
        switch (what) {
            case 0: return land.people;
            case 1: return land.pairs;
            case 2: return land.years;
            case 3: return land.card;
            case 4: return land.hurt;
            case 5: return Long.bitCount(land.strikes);
            case 6: return land.lostCards();
            case 7: return land.lines;
            case 8: return tape.length;
            case 9: return slots.filled();
            default: return NONE;
        }
    }

    public int keep(int k) {
        if (!isBelow(k, MOST_IMAGES)) {
            return NO_SUCH;
        }
        if (images[k] == null) {
            images[k] = new Land();
        }
        images[k].copyFrom(land);
        return 0;
    }

    public int on(int k) {
        if (!isBelow(k, MOST_IMAGES)) {
            return NO_SUCH;
        }
        if (images[k] == null) {
            return EMPTY;
        }
        land.copyFrom(images[k]);
        book.stale = true;
        return 0;
    }

    public int row(int slot, int width, int n) {
        if (!isBelow(slot, Slots.SLOTS) || !isBelow(width, Slots.WIDTHS) || n > Slots.MOST) {
            return NO_SUCH;
        }
        if (n < 0) {
            return BELOW_NOTHING;
        }
        slots.lay(slot, width, n);
        return 0;
    }

    public int write(int slot, int i, long v) {
        if (!isBelow(slot, Slots.SLOTS)) {
            return NO_SUCH;
        }
        if (!slots.has(slot)) {
            return EMPTY;
        }
        if (!isBelow(i, slots.size[slot])) {
            return BEYOND;
        }
        slots.put(slot, i, v);
        return 0;
    }

    public int paste(int slot, int i, int to, int k, int n) {
        if (!isBelow(slot, Slots.SLOTS) || !isBelow(to, Slots.SLOTS)) {
            return NO_SUCH;
        }
        if (!slots.has(slot) || !slots.has(to)) {
            return EMPTY;
        }
        if (slots.width[slot] != slots.width[to]) {
            return UNLIKE_WIDTHS;
        }
        if (!slots.holds(slot, i, n) || !slots.holds(to, k, n)) {
            return BEYOND;
        }
        slots.copy(slot, i, to, k, n);
        return 0;
    }

    private static boolean isBelow(int number, int bound) {
        return number >= 0 && number < bound;
    }

    private static boolean isBit(int number) {
        return number == 0 || number == 1;
    }

    private static boolean isSeed(int seed) {
        return seed >= 0 && seed <= MOST_SEED;
    }

    private static boolean areRules(int rule, int other) {
        return isBelow(rule, RETURN_RULES) && isBelow(other, RETURN_RULES);
    }

    private static boolean isAt(long bits, int place) {
        return (bits >> place & 1) != 0;
    }

    private static long withBit(long bits, int place, int is) {
        return is == 1 ? bits | 1L << place : bits & ~(1L << place);
    }

    private static int highest(long bits) {
        return bits == 0 ? NONE : 63 - Long.numberOfLeadingZeros(bits);
    }

    private boolean hasYearOf(int pair, int side, int year) {
        return land.hasPair(pair) && isBit(side) && land.hasYear(year);
    }

    private boolean isChance(int pair, int n, int what) {
        return land.hasPair(pair) && n >= 1 && n <= MOST_CHANCE_YEARS && isBit(what);
    }

    private boolean isWill(int pair, int side, int n) {
        return land.hasPair(pair) && isBit(side) && n >= 1 && n <= MOST_WILL_YEARS;
    }

    private Book refreshed() {
        if (book.stale) {
            book.writeAll(land, course);
        }
        return book;
    }

    private int sendersTo(int person, int year) {
        Book now = refreshed();
        int senders = 0;
        for (int index = 0; index < 2 * land.pairs; index++) {
            if (land.who[index] == person && isAt(now.got[index], year)) {
                senders |= 1 << land.who[index ^ 1];
            }
        }
        return senders;
    }

    private void findFateOf(int pair, int state) {
        fates.find(land.ruleOfSide(pair, 0), land.ruleOfSide(pair, 1), state);
    }

    private int turnedByStrike(int year, boolean fromDeath) {
        Book now = refreshed();
        int turned = 0;
        for (int pair = 0; pair < land.pairs; pair++) {
            int ahead = now.stateAhead(land, pair, year);
            findFateOf(pair, ahead);
            boolean dies = fates.kind() == Fate.DIES;
            findFateOf(pair, Year.after(ahead, 0));
            boolean diesByStrike = fates.kind() == Fate.DIES;
            if (dies == fromDeath && diesByStrike != fromDeath) {
                turned++;
            }
        }
        return turned;
    }

    private int hurtsByQuitting(int pair, int side, int year) {
        course.take(land, pair);
        course.may[side] &= (1L << year) - 1;
        course.run();
        return course.hurtsOf(1 - side);
    }

    private int cheapestRule(int set) {
        int cheapest = 0;
        int least = costWith(set, 0);
        for (int rule = 1; rule < RETURN_RULES; rule++) {
            int cost = costWith(set, rule);
            if (cost < least) {
                least = cost;
                cheapest = rule;
            }
        }
        return cheapest;
    }

    private int costWith(int set, int rule) {
        int cost = 0;
        for (int pair = 0; pair < land.pairs; pair++) {
            boolean has0 = isAt(set, land.who[2 * pair]);
            boolean has1 = isAt(set, land.who[2 * pair + 1]);
            if (has0 || has1) {
                course.take(land, pair);
                course.rule[0] = has0 ? rule : course.rule[0];
                course.rule[1] = has1 ? rule : course.rule[1];
                course.run();
                cost += has0 ? course.costOf(land, 0) : 0;
                cost += has1 ? course.costOf(land, 1) : 0;
            }
        }
        return cost;
    }

    /** 0, if the row of the SLOT was taken as what was seen of the PAIR, else what the call answers. */
    private int readSeen(int slot, int pair) {
        if (!isBelow(slot, Slots.SLOTS) || !land.hasPair(pair)) {
            return NO_SUCH;
        }
        if (!slots.has(slot)) {
            return EMPTY;
        }
        return seen.readRow(slots, slot, land.years) ? 0 : NO_SUCH;
    }

    private int trainIn(int[] values, int i, int n, int most) {
        if (n < 0 || n > most) {
            return NO_SUCH;
        }
        int was = values[i];
        values[i] = n;
        book.stale = true;
        return was;
    }

    /** What a text told, with what was changed since. With no LINES there is no LAND. */
    private static final class Land {
        int lines;
        int years;
        int card;
        int hurt;
        int people;
        int pairs;
        long strikes;
        final int[] rule = new int[MOST_PEOPLE];
        final int[] returns = new int[MOST_PEOPLE];
        final int[] forgets = new int[MOST_PEOPLE];
        final int[] death = new int[MOST_PEOPLE];
        final int[] move = new int[MOST_PEOPLE];
        final int[] begun = new int[MOST_PAIRS];
        /** Who is a side, and the years in which its card is lost, as bits: at 2 * pair + side. */
        final int[] who = new int[2 * MOST_PAIRS];
        final long[] lost = new long[2 * MOST_PAIRS];

        void clear() {
            lines = 0;
            years = 0;
            card = 0;
            hurt = 0;
            people = 0;
            pairs = 0;
            strikes = 0;
            Arrays.fill(lost, 0L);
        }

        void copyFrom(Land other) {
            lines = other.lines;
            years = other.years;
            card = other.card;
            hurt = other.hurt;
            people = other.people;
            pairs = other.pairs;
            strikes = other.strikes;
            System.arraycopy(other.rule, 0, rule, 0, MOST_PEOPLE);
            System.arraycopy(other.returns, 0, returns, 0, MOST_PEOPLE);
            System.arraycopy(other.forgets, 0, forgets, 0, MOST_PEOPLE);
            System.arraycopy(other.death, 0, death, 0, MOST_PEOPLE);
            System.arraycopy(other.move, 0, move, 0, MOST_PEOPLE);
            System.arraycopy(other.begun, 0, begun, 0, MOST_PAIRS);
            System.arraycopy(other.who, 0, who, 0, 2 * MOST_PAIRS);
            System.arraycopy(other.lost, 0, lost, 0, 2 * MOST_PAIRS);
        }

        boolean isThere() {
            return lines > 0;
        }

        boolean hasPerson(int person) {
            return person >= 0 && person < people;
        }

        boolean hasPair(int pair) {
            return pair >= 0 && pair < pairs;
        }

        boolean hasYear(int year) {
            return year >= 0 && year < years;
        }

        boolean hasSet(int set) {
            return set > 0 && set < 1 << people;
        }

        void addPerson(int itsRule) {
            rule[people] = itsRule;
            returns[people] = 0;
            forgets[people] = 0;
            death[people] = NONE;
            move[people] = NONE;
            people++;
        }

        void addPair(int side0, int side1, int state) {
            who[2 * pairs] = side0;
            who[2 * pairs + 1] = side1;
            begun[pairs] = state;
            pairs++;
        }

        int pairOf(int person, int other) {
            for (int pair = 0; pair < pairs; pair++) {
                int side0 = who[2 * pair];
                int side1 = who[2 * pair + 1];
                if (side0 == person && side1 == other || side0 == other && side1 == person) {
                    return pair;
                }
            }
            return NONE;
        }

        int ruleOfSide(int pair, int side) {
            int person = who[2 * pair + side];
            return rule[person] + RULES * returns[person];
        }

        int lostCards() {
            int cards = 0;
            for (int index = 0; index < 2 * pairs; index++) {
                cards += Long.bitCount(lost[index]);
            }
            return cards;
        }

        /** The YEARS in which a PERSON is not dead. */
        long livingYears(int person) {
            return (1L << (death[person] == NONE ? years : death[person])) - 1;
        }

        /** The YEARS in which a card of a side comes, if it is sent. */
        long reachOf(int pair, int side) {
            int getter = who[2 * pair + 1 - side];
            long moving = move[getter] == NONE ? 0L : 1L << move[getter];
            return livingYears(getter) & ~moving & ~strikes & ~lost[2 * pair + side];
        }
    }

    /** The bytes that were fed; read as a LAND, into one of its own, up to the first FAULT. */
    private static final class Tape {
        static final int MOST = 1600;
        static final int FEED = 20;

        private static final int END = 0;
        private static final int WORD = 1;
        private static final int NUMBER = 2;
        private static final int SIGN = 3;
        private static final int OTHER = 4;

        private static final int CANT_STAND = 1;
        private static final int NOT_AS_SAID = 2;
        private static final int TOO_MANY = 3;

        /** Above every bound, so that longer numbers need not be told apart. */
        private static final int HUGE = 1000;

        int length = 0;
        final Land told = new Land();
        int fault = 0;
        int place = NONE;
        private final byte[] bytes = new byte[MOST];
        private int at;
        private int start;
        private int kind;
        private int number;
        private int numberPlace;

        void push(int four) {
            for (int shift = 24; shift >= 0 && length < MOST; shift -= 8) {
                bytes[length] = (byte) (four >> shift);
                length++;
            }
        }

        boolean read() {
            told.clear();
            fault = 0;
            place = NONE;
            at = 0;
            goToNext();
            for (int i = 0; i < MOST && kind != END && fault == 0; i++) {
                if (readLine() && takeSign()) {
                    told.lines++;
                }
            }
            return fault == 0;
        }

        private boolean readLine() {
            if (told.lines == 0) {
                return readLand();
            }
            if (isWord("person")) {
                return readPerson() && readMarks(told.people - 1);
            }
            if (isWord("pair")) {
                return readPair();
            }
            if (isWord("lost")) {
                return readLost();
            }
            if (isWord("strike")) {
                return readStrike();
            }
            if (isWord("dies")) {
                return readFatal(told.death);
            }
            if (isWord("moves")) {
                return readFatal(told.move);
            }
            return refuse(CANT_STAND, start);
        }

        private boolean readLand() {
            if (!takeWord("land") || !takeWord("years") || !takeNumber(1, MOST_YEARS)) {
                return false;
            }
            told.years = number;
            if (!takeWord("card") || !takeNumber(0, 99)) {
                return false;
            }
            told.card = number;
            if (!takeWord("hurt") || !takeNumber(0, 99)) {
                return false;
            }
            told.hurt = number;
            return true;
        }

        private boolean readPerson() {
            if (told.people >= MOST_PEOPLE) {
                return refuse(TOO_MANY, start);
            }
            goToNext();
            if (!takeWord("rule") || !takeNumber(0, RULES - 1)) {
                return false;
            }
            told.addPerson(number);
            return true;
        }

        /** A MARK that is there already is left for takeSign to refuse. */
        private boolean readMarks(int person) {
            boolean hasReturns = false;
            boolean hasForgets = false;
            for (int i = 0; i < 2; i++) {
                if (!hasReturns && isWord("returns")) {
                    goToNext();
                    told.returns[person] = 1;
                    hasReturns = true;
                } else if (!hasForgets && isWord("forgets")) {
                    goToNext();
                    if (!takeNumber(0, MOST_FORGETS)) {
                        return false;
                    }
                    told.forgets[person] = number;
                    hasForgets = true;
                }
            }
            return true;
        }

        private boolean readPair() {
            if (told.pairs >= MOST_PAIRS) {
                return refuse(TOO_MANY, start);
            }
            goToNext();
            if (!takeNumber(0, told.people - 1)) {
                return false;
            }
            int side0 = number;
            if (!takeNumber(0, told.people - 1)) {
                return false;
            }
            int side1 = number;
            if (side0 == side1 || told.pairOf(side0, side1) != NONE) {
                return refuse(NOT_AS_SAID, numberPlace);
            }
            if (!takeWord("begun") || !takeNumber(0, STATES - 1)) {
                return false;
            }
            told.addPair(side0, side1, number);
            return true;
        }

        private boolean readLost() {
            goToNext();
            if (!takeNumber(0, told.years - 1)) {
                return false;
            }
            int year = number;
            if (!takeNumber(0, told.people - 1)) {
                return false;
            }
            int sender = number;
            if (!takeNumber(0, told.people - 1)) {
                return false;
            }
            int pair = told.pairOf(sender, number);
            if (pair == NONE) {
                return refuse(NOT_AS_SAID, numberPlace);
            }
            int side = told.who[2 * pair] == sender ? 0 : 1;
            told.lost[2 * pair + side] |= 1L << year;
            return true;
        }

        private boolean readStrike() {
            goToNext();
            if (!takeNumber(0, told.years - 1)) {
                return false;
            }
            told.strikes |= 1L << number;
            return true;
        }

        private boolean readFatal(int[] years) {
            goToNext();
            if (!takeNumber(0, told.people - 1)) {
                return false;
            }
            int person = number;
            if (!takeNumber(0, told.years - 1)) {
                return false;
            }
            years[person] = number;
            return true;
        }

        private boolean takeNumber(int low, int high) {
            if (kind != NUMBER) {
                return refuse(CANT_STAND, start);
            }
            number = valueOfToken();
            numberPlace = start;
            if (number < low || number > high) {
                return refuse(NOT_AS_SAID, start);
            }
            goToNext();
            return true;
        }

        private boolean takeWord(String word) {
            if (!isWord(word)) {
                return refuse(CANT_STAND, start);
            }
            goToNext();
            return true;
        }

        private boolean takeSign() {
            if (kind != SIGN) {
                return refuse(CANT_STAND, start);
            }
            goToNext();
            return true;
        }

        private boolean refuse(int what, int where) {
            fault = what;
            place = where;
            return false;
        }

        private boolean isWord(String word) {
            if (kind != WORD || at - start != word.length()) {
                return false;
            }
            for (int i = 0; i < word.length(); i++) {
                if (byteAt(start + i) != word.charAt(i)) {
                    return false;
                }
            }
            return true;
        }

        private int valueOfToken() {
            int value = 0;
            for (int i = start; i < at; i++) {
                value = Math.min(HUGE, 10 * value + byteAt(i) - '0');
            }
            return value;
        }

        /** The TOKEN behind the last one: from start to ahead of at. */
        private void goToNext() {
            while (at < length && isBlank(byteAt(at))) {
                at++;
            }
            start = at;
            kind = at < length ? kindOf(byteAt(at)) : END;
            if (kind == WORD || kind == NUMBER) {
                while (at < length && kindOf(byteAt(at)) == kind) {
                    at++;
                }
            } else if (kind != END) {
                at++;
            }
        }

        private int byteAt(int i) {
            return i >= 0 && i < MOST ? bytes[i] : 0;
        }

        private static boolean isBlank(int sign) {
            return sign == ' ' || sign == '\n';
        }

        private static int kindOf(int sign) {
            if (sign >= 'a' && sign <= 'z') {
                return WORD;
            }
            if (sign >= '0' && sign <= '9') {
                return NUMBER;
            }
            return sign == ';' ? SIGN : OTHER;
        }
    }

    /** What goes on between two sides in one YEAR. */
    private static final class Year {
        static int swapped(int sides) {
            return (sides & 1) << 1 | sides >> 1 & 1;
        }

        /** The sides whose RULE sends first. */
        static int firsts(int rule0, int rule1, int state) {
            return rule0 >> (state & 3) & 1 | (rule1 >> (state >> 2 & 3) & 1) << 1;
        }

        static int returning(int rule0, int rule1) {
            return rule0 >> 4 & 1 | (rule1 >> 4 & 1) << 1;
        }

        /** The sides that send by return, of those that may, when some sent first and some cards come. */
        static int backs(int first, int returning, int reach) {
            int came = first & reach;
            return ~first & returning & ((came & 1) << 1 | came >> 1);
        }

        /** The STATE behind the YEAR, in which some sides got one. */
        static int after(int state, int got) {
            return (state & 5) << 1 | got & 1 | (got & 2) << 1;
        }
    }

    /** How a PAIR goes through all YEARS; what is taken from the LAND may be changed ahead of a run. */
    private static final class Course {
        int years;
        int begun;
        final int[] rule = new int[2];
        /** By sides, YEARS as bits: it may send, its card comes; it sent first, by return, it got one. */
        final long[] may = new long[2];
        final long[] reach = new long[2];
        final long[] first = new long[2];
        final long[] back = new long[2];
        final long[] got = new long[2];

        void take(Land land, int pair) {
            years = land.years;
            begun = land.begun[pair];
            for (int side = 0; side < 2; side++) {
                rule[side] = land.ruleOfSide(pair, side);
                may[side] = land.livingYears(land.who[2 * pair + side]);
                reach[side] = land.reachOf(pair, side);
            }
        }

        void run() {
            runWhile(0L, 0L, 0L);
        }

        /** Runs on while, in the YEARS that were seen, each side got what it was seen to get. */
        boolean runWhile(long seen, long seen0, long seen1) {
            for (int side = 0; side < 2; side++) {
                first[side] = 0L;
                back[side] = 0L;
                got[side] = 0L;
            }
            int returning = Year.returning(rule[0], rule[1]);
            int state = begun;
            for (int year = 0; year < years; year++) {
                int able = sidesOf(may[0], may[1], year);
                int comes = sidesOf(reach[0], reach[1], year);
                int sent = Year.firsts(rule[0], rule[1], state) & able;
                int sentBack = Year.backs(sent, returning & able, comes);
                int gets = Year.swapped((sent | sentBack) & comes);
                note(first, year, sent);
                note(back, year, sentBack);
                note(got, year, gets);
                if (isAt(seen, year) && gets != sidesOf(seen0, seen1, year)) {
                    return false;
                }
                state = Year.after(state, gets);
            }
            return true;
        }

        int hurtsOf(int side) {
            return Long.bitCount((first[side] | back[side]) & ~got[side]);
        }

        int costOf(Land land, int side) {
            return land.card * Long.bitCount(first[side] | back[side]) + land.hurt * hurtsOf(side);
        }

        /** The sides that have a YEAR among theirs. */
        static int sidesOf(long side0, long side1, int year) {
            return (int) (side0 >> year & 1) | (int) (side1 >> year & 1) << 1;
        }

        private static void note(long[] bySide, int year, int sides) {
            bySide[0] |= (long) (sides & 1) << year;
            bySide[1] |= (long) (sides >> 1) << year;
        }
    }

    /** The courses of all PAIRS, as bits of YEARS at 2 * pair + side; written anew when the LAND changed. */
    private static final class Book {
        boolean stale = true;
        final long[] first = new long[2 * MOST_PAIRS];
        final long[] back = new long[2 * MOST_PAIRS];
        final long[] got = new long[2 * MOST_PAIRS];

        void writeAll(Land land, Course course) {
            for (int pair = 0; pair < land.pairs; pair++) {
                course.take(land, pair);
                course.run();
                System.arraycopy(course.first, 0, first, 2 * pair, 2);
                System.arraycopy(course.back, 0, back, 2 * pair, 2);
                System.arraycopy(course.got, 0, got, 2 * pair, 2);
            }
            stale = false;
        }

        long sentOf(int index) {
            return first[index] | back[index];
        }

        long sentByAny(int pair) {
            return sentOf(2 * pair) | sentOf(2 * pair + 1);
        }

        int stateAhead(Land land, int pair, int year) {
            int begun = land.begun[pair];
            return stateOfSide(got[2 * pair], begun & 3, year) | stateOfSide(got[2 * pair + 1], begun >> 2, year) << 2;
        }

        /** Puts the two years ahead of the first below the YEARS, so that any two of them stand together. */
        private static int stateOfSide(long gotYears, int begunSide, int year) {
            long gotAll = gotYears << 2 | (begunSide & 1) << 1 | begunSide >> 1;
            return (int) (gotAll >> year + 1 & 1) | (int) (gotAll >> year & 1) << 1;
        }

        int sentIn(Land land, int year) {
            int cards = 0;
            for (int index = 0; index < 2 * land.pairs; index++) {
                cards += isAt(sentOf(index), year) ? 1 : 0;
            }
            return cards;
        }

        int comeIn(Land land, int year) {
            int cards = 0;
            for (int index = 0; index < 2 * land.pairs; index++) {
                cards += isAt(got[index], year) ? 1 : 0;
            }
            return cards;
        }

        int costOf(Land land, int person) {
            int cost = 0;
            for (int index = 0; index < 2 * land.pairs; index++) {
                if (land.who[index] == person) {
                    long sent = sentOf(index);
                    cost += land.card * Long.bitCount(sent) + land.hurt * Long.bitCount(sent & ~got[index]);
                }
            }
            return cost;
        }
    }

    /** The ROUND to which two RULES come from a STATE. */
    private static final class Fate {
        static final int DIES = 0;
        static final int LASTS = 1;
        static final int ELSE = 2;

        int begins;
        int length;
        int cards;
        /** The first STATE of the ROUND. */
        int round;
        private int rule0;
        private int rule1;
        private final int[] yearOf = new int[STATES];

        void find(int itsRule, int otherRule, int from) {
            rule0 = itsRule;
            rule1 = otherRule;
            Arrays.fill(yearOf, NONE);
            int state = from;
            int year = 0;
            while (year < STATES && yearOf[state] == NONE) {
                yearOf[state] = year;
                year++;
                state = next(state, BOTH_SIDES);
            }
            round = state;
            begins = yearOf[state];
            length = year - begins;
            cards = 0;
            for (int i = 0; i < length; i++) {
                cards += Integer.bitCount(sentIn(state, BOTH_SIDES));
                state = next(state, BOTH_SIDES);
            }
        }

        int kind() {
            if (cards == 0) {
                return DIES;
            }
            return cards == 2 * length ? LASTS : ELSE;
        }

        int tell(int what) {
            switch (what) {
                case 0: return begins;
                case 1: return length;
                case 2: return cards;
                default: return kind();
            }
        }

        boolean everDies(int itsRule, int otherRule) {
            for (int state = 0; state < STATES; state++) {
                find(itsRule, otherRule, state);
                if (kind() == DIES) {
                    return true;
                }
            }
            return false;
        }

        /** Whether a STATE is one of the ROUND. */
        boolean isIn(int state) {
            return yearOf[state] >= begins;
        }

        /** The STATE behind year i of the ROUND, if a side's card is lost in it. */
        int withLoss(int i, int side) {
            int state = round;
            for (int year = 0; year < i; year++) {
                state = next(state, BOTH_SIDES);
            }
            return next(state, BOTH_SIDES & ~(1 << side));
        }

        private int sentIn(int state, int reach) {
            int first = Year.firsts(rule0, rule1, state);
            return first | Year.backs(first, Year.returning(rule0, rule1), reach);
        }

        private int next(int state, int reach) {
            return Year.after(state, Year.swapped(sentIn(state, reach) & reach));
        }
    }

    /** Chances of a PAIR whose people forget, all with 1,000,000 to the power of the years below. */
    private static final class Chances {
        private static final long YEAR_BELOW = 1_000_000L;

        /** Above the fractions: that any, that both send in the last year; mean cards of all years. */
        long any;
        long bothSend;
        long cardsSent;
        private long below;
        private int rule0;
        private int rule1;
        private final int[] forgets = new int[2];
        private long[] now = new long[STATES];
        private long[] then = new long[STATES];

        void goThrough(Land land, int pair, int n) {
            rule0 = land.ruleOfSide(pair, 0);
            rule1 = land.ruleOfSide(pair, 1);
            forgets[0] = land.forgets[land.who[2 * pair]];
            forgets[1] = land.forgets[land.who[2 * pair + 1]];
            below = 1L;
            cardsSent = 0L;
            Arrays.fill(now, 0L);
            now[land.begun[pair]] = 1L;
            for (int year = 0; year < n; year++) {
                goThroughYear();
            }
        }

        private void goThroughYear() {
            any = 0L;
            bothSend = 0L;
            cardsSent *= YEAR_BELOW;
            below *= YEAR_BELOW;
            Arrays.fill(then, 0L);
            for (int state = 0; state < STATES; state++) {
                if (now[state] != 0L) {
                    goOnFrom(state);
                }
            }
            long[] old = now;
            now = then;
            then = old;
        }

        private void goOnFrom(int state) {
            int would = Year.firsts(rule0, rule1, state);
            for (int first = 0; first <= BOTH_SIDES; first++) {
                long weight = now[state] * hundredths(would, first, 0) * hundredths(would, first, 1);
                int backs = Year.backs(first, Year.returning(rule0, rule1), BOTH_SIDES);
                if (backs == 0) {
                    note(state, first, weight * 100);
                } else {
                    int forgetting = forgets[backs >> 1];
                    note(state, first, weight * forgetting);
                    note(state, first | backs, weight * (100 - forgetting));
                }
            }
        }

        /** How often in a hundred a side is, or is not, among those who did send, of those who would. */
        private int hundredths(int would, int did, int side) {
            int sending = (would >> side & 1) == 1 ? 100 - forgets[side] : 0;
            return (did >> side & 1) == 1 ? sending : 100 - sending;
        }

        private void note(int state, int sent, long weight) {
            any += sent == 0 ? 0L : weight;
            bothSend += sent == BOTH_SIDES ? weight : 0L;
            cardsSent += Integer.bitCount(sent) * weight;
            then[Year.after(state, Year.swapped(sent))] += weight;
        }

        long fraction(long above, int what) {
            long divisor = commonDivisor(above, below);
            if (divisor == 0L) {
                return NO_SUCH;
            }
            return (what == 0 ? above : below) / divisor;
        }

        private static long commonDivisor(long one, long other) {
            long a = one;
            long b = other;
            for (int i = 0; i < 200 && b != 0L; i++) {
                long rest = a % b;
                a = b;
                b = rest;
            }
            return a;
        }
    }

    /** The best row of one side that sends first or not as it will, found from the last year back. */
    private static final class Will {
        /** Above every worth, and far from overflow: there is no way. */
        private static final int NO_WAY = 1_000_000;

        private int side;
        private int rule;
        private int begun;
        private int years;
        private int card;
        private int hurt;
        private boolean isEnd;
        /** The least from a year and a STATE on, at STATES * year + state. */
        private final int[] worth = new int[STATES * (MOST_WILL_YEARS + 1)];

        void planEnd(Land land, int pair, int itsSide, int n, Fate fates) {
            take(land, pair, itsSide, n);
            isEnd = true;
            for (int state = 0; state < STATES; state++) {
                fates.find(side == 0 ? 0 : rule, side == 0 ? rule : 0, state);
                worth[STATES * years + state] = fates.kind() == Fate.DIES ? 0 : NO_WAY;
            }
            goBack();
        }

        void planKeep(Land land, int pair, int itsSide, int n) {
            take(land, pair, itsSide, n);
            isEnd = false;
            Arrays.fill(worth, 0);
            goBack();
        }

        int least() {
            int least = worth[begun];
            return least >= NO_WAY ? NONE : least;
        }

        int choiceIn(int i) {
            if (least() == NONE) {
                return NONE;
            }
            int state = begun;
            for (int year = 0; year < i; year++) {
                state = next(state, choiceFrom(year, state));
            }
            return choiceFrom(i, state);
        }

        private void take(Land land, int pair, int itsSide, int n) {
            side = itsSide;
            rule = land.ruleOfSide(pair, 1 - itsSide);
            begun = land.begun[pair];
            years = n;
            card = land.card;
            hurt = land.hurt;
        }

        private void goBack() {
            for (int year = years - 1; year >= 0; year--) {
                for (int state = 0; state < STATES; state++) {
                    worth[STATES * year + state] = Math.min(worthOf(year, state, 0), worthOf(year, state, 1));
                }
            }
        }

        private int choiceFrom(int year, int state) {
            return worthOf(year, state, 0) <= worthOf(year, state, 1) ? 0 : 1;
        }

        private int worthOf(int year, int state, int choice) {
            int sent = sentBy(state, choice);
            if (!isEnd && year == years - 1 && sent != BOTH_SIDES) {
                return NO_WAY;
            }
            int rest = worth[STATES * (year + 1) + next(state, choice)];
            int price = isEnd ? priceOf(sent) : choice;
            return Math.min(NO_WAY, rest + price);
        }

        private int priceOf(int sent) {
            return card * Integer.bitCount(sent) + hurt * Integer.bitCount(sent & ~Year.swapped(sent));
        }

        private int sentBy(int state, int choice) {
            int rule0 = side == 0 ? 0 : rule;
            int rule1 = side == 0 ? rule : 0;
            int first = Year.firsts(rule0, rule1, state) | choice << side;
            return first | Year.backs(first, Year.returning(rule0, rule1), BOTH_SIDES);
        }

        private int next(int state, int choice) {
            return Year.after(state, Year.swapped(sentBy(state, choice)));
        }
    }

    /** Rows of numbers, each with a WIDTH, or nothing. */
    private static final class Slots {
        static final int SLOTS = 4;
        static final int WIDTHS = 4;
        static final int MOST = 60;

        final int[] width = new int[SLOTS];
        final int[] size = {NONE, NONE, NONE, NONE};
        private final long[] numbers = new long[SLOTS * MOST];

        boolean has(int slot) {
            return size[slot] != NONE;
        }

        int filled() {
            int rows = 0;
            for (int slot = 0; slot < SLOTS; slot++) {
                rows += has(slot) ? 1 : 0;
            }
            return rows;
        }

        void lay(int slot, int itsWidth, int n) {
            width[slot] = itsWidth;
            size[slot] = n;
            for (int i = 0; i < n; i++) {
                numbers[slot * MOST + i] = 0L;
            }
        }

        long numberAt(int slot, int i) {
            return numbers[slot * MOST + i];
        }

        void put(int slot, int i, long v) {
            int over = 64 - (8 << width[slot]);
            numbers[slot * MOST + i] = v << over >> over;
        }

        boolean holds(int slot, int i, int n) {
            return i >= 0 && n >= 0 && i <= size[slot] && n <= size[slot] - i;
        }

        void copy(int slot, int i, int to, int k, int n) {
            System.arraycopy(numbers, slot * MOST + i, numbers, to * MOST + k, n);
        }
    }

    /** What was seen of a PAIR on two mantelpieces. */
    private static final class Seen {
        /** YEARS as bits: seen at all, side 0 got one, side 1 got one. */
        private long years;
        private long got0;
        private long got1;
        private boolean clashes;

        /** Whether the row is so: three numbers each, a YEAR and what each side got. */
        boolean readRow(Slots slots, int slot, int landYears) {
            years = 0L;
            got0 = 0L;
            got1 = 0L;
            clashes = false;
            if (slots.size[slot] % SEEN_WIDTH != 0) {
                return false;
            }
            for (int i = 0; i < slots.size[slot]; i += SEEN_WIDTH) {
                long year = slots.numberAt(slot, i);
                long side0 = slots.numberAt(slot, i + 1);
                long side1 = slots.numberAt(slot, i + 2);
                if (year < 0 || year >= landYears || side0 < 0 || side0 > 1 || side1 < 0 || side1 > 1) {
                    return false;
                }
                note((int) year, side0, side1);
            }
            return true;
        }

        /** Whether a course would go as seen by two RULES. */
        boolean mayCome(Course course, int rule, int other) {
            if (clashes) {
                return false;
            }
            course.rule[0] = rule;
            course.rule[1] = other;
            course.years = highest(years) + 1;
            return course.runWhile(years, got0, got1);
        }

        private void note(int year, long side0, long side1) {
            if (isAt(years, year)) {
                clashes = clashes || (got0 >> year & 1) != side0 || (got1 >> year & 1) != side1;
                return;
            }
            years |= 1L << year;
            got0 |= side0 << year;
            got1 |= side1 << year;
        }
    }

    /** A LIFE of the LAND in which people forget by draws. */
    private static final class Lives {
        int sent;
        int forgot;
        /** Of each PAIR, the last YEAR in which it sends any. */
        final int[] lastSent = new int[MOST_PAIRS];
        private long x;
        private final int[] states = new int[MOST_PAIRS];
        private final long[] may = new long[2 * MOST_PAIRS];
        private final long[] reach = new long[2 * MOST_PAIRS];

        void draw(Land land, int seed) {
            x = seed;
            sent = 0;
            forgot = 0;
            for (int pair = 0; pair < land.pairs; pair++) {
                lastSent[pair] = NONE;
                states[pair] = land.begun[pair];
                for (int side = 0; side < 2; side++) {
                    may[2 * pair + side] = land.livingYears(land.who[2 * pair + side]);
                    reach[2 * pair + side] = land.reachOf(pair, side);
                }
            }
            for (int year = 0; year < land.years; year++) {
                for (int pair = 0; pair < land.pairs; pair++) {
                    goThrough(land, pair, year);
                }
            }
        }

        int silentAtLast(Land land) {
            int silent = 0;
            for (int pair = 0; pair < land.pairs; pair++) {
                silent += lastSent[pair] == land.years - 1 ? 0 : 1;
            }
            return silent;
        }

        private void goThrough(Land land, int pair, int year) {
            int rule0 = land.ruleOfSide(pair, 0);
            int rule1 = land.ruleOfSide(pair, 1);
            int able = Course.sidesOf(may[2 * pair], may[2 * pair + 1], year);
            int comes = Course.sidesOf(reach[2 * pair], reach[2 * pair + 1], year);
            int first = mindful(land, pair, Year.firsts(rule0, rule1, states[pair]) & able);
            int backs = Year.backs(first, Year.returning(rule0, rule1) & able, comes);
            int all = first | mindful(land, pair, backs);
            if (all != 0) {
                lastSent[pair] = year;
            }
            sent += Integer.bitCount(all);
            states[pair] = Year.after(states[pair], Year.swapped(all & comes));
        }

        /** The sides, of those who would send, that do not forget it. */
        private int mindful(Land land, int pair, int would) {
            int sides = would;
            for (int side = 0; side < 2; side++) {
                if ((would >> side & 1) == 1 && nextDraw() < land.forgets[land.who[2 * pair + side]]) {
                    sides &= ~(1 << side);
                    forgot++;
                }
            }
            return sides;
        }

        private int nextDraw() {
            x = (1103515245L * x + 12345L) % 2147483648L;
            return (int) (x / 65536L % 100L);
        }
    }
}
