import java.math.BigInteger;
import java.util.ArrayList;
import java.util.List;
import java.util.Random;

/** Compares the class with the plain model on lands that are made up, promises 4 to 58. */
public final class ModelTest {
    private static final Due due = new Due();

    public static void main(String[] args) {
        allFates();
        for (int i = 0; i < 220; i++) {
            Random random = new Random(i);
            Model m = Model.random(random, i % 4 == 0 ? 40 : 9);
            CardsAtYule x = new CardsAtYule();
            due.is("lines of " + m.text(), Due.tell(x, m.text()), m.lines.size());
            compareAll(x, m, random);
            if (change(x, m, random)) {
                compareAll(x, m, random);
            }
        }
        due.end();
    }

    private static void allFates() {
        CardsAtYule x = new CardsAtYule();
        for (int rule = 0; rule < 32; rule++) {
            int faithful = 0;
            for (int other = 0; other < 32; other++) {
                int[] kinds = new int[3];
                int longest = 0;
                for (int state = 0; state < 16; state++) {
                    List<Integer> fate = Model.fate(rule, other, state);
                    for (int what = 0; what < 4; what++) {
                        due.is("fate " + rule + " " + other + " " + state + " " + what,
                            x.fate(rule, other, state, what), fate.get(what));
                    }
                    kinds[fate.get(3)]++;
                    longest = Math.max(longest, fate.get(1));
                }
                for (int what = 0; what < 3; what++) {
                    due.is("basin " + rule + " " + other + " " + what, x.basin(rule, other, what), kinds[what]);
                }
                due.is("longest " + rule + " " + other, x.longest(rule, other), longest);
                faithful += kinds[0] == 0 ? 1 : 0;
            }
            due.is("faithful " + rule, x.faithful(rule), faithful);
        }
    }

    private static boolean change(CardsAtYule x, Model m, Random random) {
        if (m.pairs.isEmpty()) {
            return false;
        }
        Model.Pair p = m.pairs.get(random.nextInt(m.pairs.size()));
        int pair = m.pairs.indexOf(p);
        Model.Person person = m.people.get(random.nextInt(m.people.size()));
        int who = m.people.indexOf(person);
        int rule = random.nextInt(16);
        due.is("train 0", x.train(who, 0, rule), person.rule);
        person.rule = rule;
        boolean returns = random.nextBoolean();
        due.is("train 1", x.train(who, 1, returns ? 1 : 0), person.returns ? 1 : 0);
        person.returns = returns;
        int forgets = random.nextInt(51);
        due.is("train 2", x.train(who, 2, forgets), person.forgets);
        person.forgets = forgets;
        int state = random.nextInt(16);
        due.is("begin", x.begin(pair, state), p.begun);
        p.begun = state;
        int side = random.nextInt(2);
        int year = random.nextInt(m.years);
        boolean is = random.nextBoolean();
        due.is("lose", x.lose(pair, side, year, is ? 1 : 0), p.lost[side][year] ? 1 : 0);
        p.lost[side][year] = is;
        due.is("calls", x.calls(year, is ? 0 : 1), m.strikes[year] ? 1 : 0);
        m.strikes[year] = !is;
        return true;
    }

    private static void compareAll(CardsAtYule x, Model m, Random random) {
        List<Model.Run> runs = new ArrayList<>();
        for (Model.Pair p : m.pairs) {
            runs.add(m.run(p));
        }
        compareFacts(x, m);
        compareYears(x, m, runs);
        comparePeople(x, m, runs);
        for (int pair = 0; pair < m.pairs.size(); pair++) {
            comparePair(x, m, pair, runs.get(pair));
            compareRound(x, m, pair);
            compareQuit(x, m, pair);
        }
        compareStrikes(x, m, runs);
        if (!m.pairs.isEmpty()) {
            int pair = random.nextInt(m.pairs.size());
            compareChances(x, m, pair);
            compareWill(x, m, pair, 1 + random.nextInt(5));
            compareWill(x, m, pair, 6 + random.nextInt(7));
            compareSeen(x, m, pair, random, runs.get(pair));
        }
        compareFamilies(x, m, random);
        compareLives(x, m, random);
    }

    private static void compareFacts(CardsAtYule x, Model m) {
        int strikes = 0;
        int lost = 0;
        for (int y = 0; y < m.years; y++) {
            strikes += m.strikes[y] ? 1 : 0;
            for (Model.Pair p : m.pairs) {
                lost += (p.lost[0][y] ? 1 : 0) + (p.lost[1][y] ? 1 : 0);
            }
        }
        int[] want = {m.people.size(), m.pairs.size(), m.years, m.card, m.hurt, strikes, lost, m.lines.size()};
        for (int what = 0; what < want.length; what++) {
            due.is("count " + what, x.count(what), want[what]);
        }
        for (int one = 0; one < m.people.size(); one++) {
            Model.Person p = m.people.get(one);
            int[] facts = {p.rule, p.returns ? 1 : 0, p.forgets, p.death, p.move};
            for (int what = 0; what < 5; what++) {
                due.is("person " + one + " " + what, x.person(one, what), facts[what]);
            }
            for (int two = 0; two < m.people.size(); two++) {
                due.is("of " + one + " " + two, x.of(one, two), one == two ? -2 : m.find(one, two));
            }
        }
        for (int pair = 0; pair < m.pairs.size(); pair++) {
            Model.Pair p = m.pairs.get(pair);
            due.is("pair 0", x.pair(pair, 0), p.one);
            due.is("pair 1", x.pair(pair, 1), p.two);
            due.is("pair 2", x.pair(pair, 2), p.begun);
        }
    }

    private static void compareYears(CardsAtYule x, Model m, List<Model.Run> runs) {
        int poorest = 0;
        int fewest = Integer.MAX_VALUE;
        int over = 0;
        for (int y = 0; y < m.years; y++) {
            int sent = 0;
            int come = 0;
            over = 0;
            for (Model.Run r : runs) {
                for (int side = 0; side < 2; side++) {
                    sent += r.sends[side][y] != 0 ? 1 : 0;
                    come += r.got[side][y] ? 1 : 0;
                }
                over += r.sends[0][y] == 0 && r.sends[1][y] == 0 ? 1 : 0;
            }
            due.is("cards 0", x.cards(y, 0), sent);
            due.is("cards 1", x.cards(y, 1), come);
            due.is("cards 2", x.cards(y, 2), sent - come);
            if (sent < fewest) {
                fewest = sent;
                poorest = y;
            }
        }
        due.is("poorest", x.poorest(), poorest);
        due.is("over", x.over(), over);
    }

    private static void comparePeople(CardsAtYule x, Model m, List<Model.Run> runs) {
        int dearest = -1;
        int most = -1;
        for (int who = 0; who < m.people.size(); who++) {
            int hurts = 0;
            int shames = 0;
            for (int pair = 0; pair < m.pairs.size(); pair++) {
                for (int side = 0; side < 2; side++) {
                    if (m.pairs.get(pair).who(side) == who) {
                        hurts += m.hurts(runs.get(pair), side);
                        shames += m.shames(runs.get(pair), side);
                    }
                }
            }
            due.is("hurts", x.hurts(who, 0), hurts);
            due.is("shames", x.hurts(who, 1), shames);
            int cost = m.costOfSet(1 << who, -1);
            due.is("cost", x.cost(who), cost);
            if (cost > most) {
                most = cost;
                dearest = who;
            }
            for (int y = 0; y < m.years; y++) {
                int list = 0;
                int whose = 0;
                for (int pair = 0; pair < m.pairs.size(); pair++) {
                    for (int side = 0; side < 2; side++) {
                        if (m.pairs.get(pair).who(side) == who) {
                            list += runs.get(pair).sends[side][y] != 0 ? 1 : 0;
                            whose += runs.get(pair).got[side][y] ? 1 << m.pairs.get(pair).who(1 - side) : 0;
                        }
                    }
                }
                due.is("list", x.list(who, y), list);
                due.is("mantel", x.mantel(who, y), Integer.bitCount(whose));
                due.is("whose", x.whose(who, y), whose);
            }
        }
        due.is("dearest", x.dearest(), dearest);
    }

    private static void comparePair(CardsAtYule x, Model m, int pair, Model.Run r) {
        int last = -1;
        int streak = 0;
        int from = -1;
        for (int y = 0; y < m.years; y++) {
            for (int side = 0; side < 2; side++) {
                due.is("sends", x.sends(pair, side, y), r.sends[side][y]);
                due.is("got", x.got(pair, side, y), r.got[side][y] ? 1 : 0);
            }
            due.is("state", x.state(pair, y), r.states[y]);
            if (r.sends[0][y] + r.sends[1][y] > 0) {
                last = y;
            }
            int row = 0;
            while (y + row < m.years && r.got[0][y + row] && r.got[1][y + row]) {
                row++;
            }
            if (row > streak) {
                streak = row;
                from = y;
            }
        }
        due.is("state at last", x.state(pair, m.years), r.states[m.years]);
        due.is("last", x.last(pair), last);
        due.is("streak 0", x.streak(pair, 0), streak);
        due.is("streak 1", x.streak(pair, 1), from);
        due.is("odds", x.odds(pair), m.sent(r, 0) - m.sent(r, 1));
    }

    private static void compareRound(CardsAtYule x, Model m, int pair) {
        Model.Pair p = m.pairs.get(pair);
        int rule0 = m.people.get(p.one).full();
        int rule1 = m.people.get(p.two).full();
        List<Integer> fate = Model.fate(rule0, rule1, p.begun);
        for (int what = 0; what < 4; what++) {
            due.is("goes " + what, x.goes(pair, what), fate.get(what));
        }
        List<Integer> round = fate.subList(4, fate.size());
        for (int side = 0; side < 2; side++) {
            int back = 0;
            for (int i = 0; i < round.size(); i++) {
                List<Integer> then = Model.fate(rule0, rule1, Model.next(rule0, rule1, round.get(i), side));
                due.is("lost", x.lost(pair, side, i), then.get(3));
                if (then.subList(4, then.size()).contains(round.get(0))) {
                    back += 1 << i;
                }
            }
            due.is("lost beyond", x.lost(pair, side, round.size()), -2);
            due.is("back", x.back(pair, side), back);
        }
    }

    private static void compareStrikes(CardsAtYule x, Model m, List<Model.Run> runs) {
        int mildest = 0;
        int fewest = Integer.MAX_VALUE;
        for (int y = 0; y < m.years; y++) {
            int ends = 0;
            int saves = 0;
            for (int pair = 0; pair < m.pairs.size(); pair++) {
                Model.Pair p = m.pairs.get(pair);
                int rule0 = m.people.get(p.one).full();
                int rule1 = m.people.get(p.two).full();
                int state = runs.get(pair).states[y];
                boolean dies = Model.fate(rule0, rule1, state).get(3) == 0;
                boolean struck = Model.fate(rule0, rule1, Model.after(state, false, false)).get(3) == 0;
                ends += !dies && struck ? 1 : 0;
                saves += dies && !struck ? 1 : 0;
            }
            due.is("strike", x.strike(y), ends);
            due.is("saves", x.saves(y), saves);
            if (ends < fewest) {
                fewest = ends;
                mildest = y;
            }
        }
        due.is("mildest", x.mildest(), mildest);
    }

    private static void compareChances(CardsAtYule x, Model m, int pair) {
        for (int n = 1; n <= 3; n++) {
            BigInteger[][] want = m.chances(m.pairs.get(pair), n);
            for (int what = 0; what < 2; what++) {
                due.is("alive", x.alive(pair, n, what), want[0][what].longValueExact());
                due.is("both", x.both(pair, n, what), want[1][what].longValueExact());
                due.is("mean", x.mean(pair, n, what), want[2][what].longValueExact());
            }
        }
    }

    private static void compareWill(CardsAtYule x, Model m, int pair, int n) {
        for (int side = 0; side < 2; side++) {
            String end = m.bestRow(m.pairs.get(pair), side, n, true);
            String keep = m.bestRow(m.pairs.get(pair), side, n, false);
            due.is("ending", x.ending(pair, side, n), worth(end));
            due.is("keeping", x.keeping(pair, side, n), worth(keep));
            for (int i = 0; i < n; i++) {
                due.is("step", x.step(pair, side, n, i), choice(end, i));
                due.is("pen", x.pen(pair, side, n, i), choice(keep, i));
            }
        }
    }

    private static int worth(String row) {
        return row == null ? -1 : Integer.parseInt(row.substring(0, row.indexOf(':')));
    }

    private static int choice(String row, int i) {
        return row == null ? -1 : row.charAt(row.indexOf(':') + 1 + i) - '0';
    }

    private static void compareQuit(CardsAtYule x, Model m, int pair) {
        Model.Pair p = m.pairs.get(pair);
        for (int side = 0; side < 2; side++) {
            int when = 0;
            int fewest = Integer.MAX_VALUE;
            for (int y = 0; y < m.years; y++) {
                Model.Run r = m.run(p, m.people.get(p.one).full(), m.people.get(p.two).full(), p.begun, side, y);
                int hurts = m.hurts(r, 1 - side);
                due.is("quit", x.quit(pair, side, y), hurts);
                if (hurts < fewest) {
                    fewest = hurts;
                    when = y;
                }
            }
            due.is("when", x.when(pair, side), when);
        }
    }

    private static void compareFamilies(CardsAtYule x, Model m, Random random) {
        int all = 1 << m.people.size();
        for (int who = 0; who < m.people.size(); who++) {
            int rule = cheapest(m, 1 << who);
            due.is("best", x.best(who), rule);
            due.is("bestCost", x.bestCost(who), m.costOfSet(1 << who, rule));
        }
        for (int i = 0; i < 3 && all > 1; i++) {
            int set = 1 + random.nextInt(all - 1);
            int rule = cheapest(m, set);
            due.is("family", x.family(set), rule);
            due.is("together", x.together(set), m.costOfSet(set, rule));
        }
        due.is("family of others", x.family(all), -2);
        due.is("together of others", x.together(all | 1), all == 1 ? -2 : -2);
    }

    private static int cheapest(Model m, int set) {
        int best = 0;
        for (int rule = 1; rule < 32; rule++) {
            if (m.costOfSet(set, rule) < m.costOfSet(set, best)) {
                best = rule;
            }
        }
        return best;
    }

    private static void compareSeen(CardsAtYule x, Model m, int pair, Random random, Model.Run actual) {
        int count = random.nextInt(6);
        long[] row = new long[3 * count];
        for (int i = 0; i < count; i++) {
            int year = random.nextInt(m.years);
            boolean sly = random.nextInt(8) == 0;
            row[3 * i] = year;
            row[3 * i + 1] = actual.got[0][year] != sly ? 1 : 0;
            row[3 * i + 2] = actual.got[1][year] ? 1 : 0;
        }
        Due.fill(x, 2, random.nextInt(4), row);
        Model.Pair p = m.pairs.get(pair);
        int rule0 = m.people.get(p.one).full();
        int rule1 = m.people.get(p.two).full();
        int ways = 0;
        long which0 = 0;
        long which1 = 0;
        for (int one = 0; one < 32; one++) {
            for (int two = 0; two < 32; two++) {
                if (oddAmong(m.run(p, one, two, p.begun, -1, 0), row) < 0) {
                    ways++;
                    which0 |= 1L << one;
                    which1 |= 1L << two;
                }
            }
        }
        int begun = 0;
        for (int state = 0; state < 16; state++) {
            begun |= oddAmong(m.run(p, rule0, rule1, state, -1, 0), row) < 0 ? 1 << state : 0;
        }
        due.is("fits", x.fits(2, pair), ways);
        due.is("which 0", x.which(2, pair, 0), which0);
        due.is("which 1", x.which(2, pair, 1), which1);
        due.is("begun", x.begun(2, pair), begun);
        due.is("odd", x.odd(2, pair), oddAmong(actual, row));
    }

    private static int oddAmong(Model.Run r, long[] row) {
        for (int i = 0; i < row.length; i += 3) {
            int year = (int) row[i];
            if (r.got[0][year] != (row[i + 1] == 1) || r.got[1][year] != (row[i + 2] == 1)) {
                return i / 3;
            }
        }
        return -1;
    }

    private static void compareLives(CardsAtYule x, Model m, Random random) {
        int[] seeds = {0, 2_000_000_000, random.nextInt(2_000_000_000)};
        for (int seed : seeds) {
            int[] life = m.life(seed);
            for (int what = 0; what < 3; what++) {
                due.is("life " + what, x.life(seed, what), life[what]);
            }
            for (int pair = 0; pair < m.pairs.size(); pair++) {
                due.is("lives", x.lives(seed, pair), life[3 + pair]);
            }
        }
        if (!m.pairs.isEmpty()) {
            int pair = random.nextInt(m.pairs.size());
            int n = 1 + random.nextInt(20);
            int lasting = 0;
            for (int i = 0; i < n; i++) {
                lasting += m.life(seeds[2] + i)[3 + pair] == m.years - 1 ? 1 : 0;
            }
            due.is("lasts", x.lasts(seeds[2], n, pair), lasting);
        }
    }
}
