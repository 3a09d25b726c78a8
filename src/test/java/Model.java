import java.math.BigInteger;
import java.util.ArrayList;
import java.util.List;
import java.util.Random;

/** The land told again, as plainly as the document's terms: no bits, no short cuts, everything tried out. */
final class Model {
    static final class Person {
        int rule;
        boolean returns;
        int forgets;
        int death = -1;
        int move = -1;

        int full() {
            return returns ? rule + 16 : rule;
        }
    }

    static final class Pair {
        int one;
        int two;
        int begun;
        boolean[][] lost;

        int who(int side) {
            return side == 0 ? one : two;
        }
    }

    /** How a pair went: sends 0, 1, 2 and got, by side and year; states ahead of each year. */
    static final class Run {
        int[][] sends;
        boolean[][] got;
        int[] states;
    }

    int years;
    int card;
    int hurt;
    boolean[] strikes;
    final List<Person> people = new ArrayList<>();
    final List<Pair> pairs = new ArrayList<>();
    final List<String> lines = new ArrayList<>();

    static Model random(Random random, int mostYears) {
        Model m = new Model();
        m.years = 1 + random.nextInt(mostYears);
        m.card = random.nextInt(100);
        m.hurt = random.nextInt(100);
        m.strikes = new boolean[m.years];
        m.lines.add("land years " + m.years + " card " + m.card + " hurt " + m.hurt);
        int count = random.nextInt(11);
        for (int i = 0; i < count; i++) {
            m.addPerson(random);
        }
        int tries = random.nextInt(30);
        for (int i = 0; i < tries && count > 1; i++) {
            m.addPair(random);
        }
        for (int i = random.nextInt(8); i > 0; i--) {
            m.addMishap(random);
        }
        return m;
    }

    private void addPerson(Random random) {
        Person p = new Person();
        int[] likely = {10, 14, 8, 12, 15};
        p.rule = random.nextBoolean() ? random.nextInt(16) : likely[random.nextInt(5)];
        String line = "person rule " + p.rule;
        boolean late = random.nextBoolean();
        p.returns = random.nextInt(3) == 0;
        if (random.nextBoolean()) {
            p.forgets = random.nextInt(51);
        }
        String forgets = p.forgets > 0 ? " forgets " + p.forgets : "";
        String returns = p.returns ? " returns" : "";
        lines.add(line + (late ? forgets + returns : returns + forgets));
        people.add(p);
    }

    private void addPair(Random random) {
        int one = random.nextInt(people.size());
        int two = random.nextInt(people.size());
        if (one == two || find(one, two) >= 0 || pairs.size() == 16) {
            return;
        }
        Pair p = new Pair();
        p.one = one;
        p.two = two;
        p.begun = random.nextInt(16);
        p.lost = new boolean[2][years];
        pairs.add(p);
        lines.add("pair " + one + " " + two + " begun " + p.begun);
    }

    private void addMishap(Random random) {
        int year = random.nextInt(years);
        int kind = random.nextInt(4);
        if (kind == 0) {
            strikes[year] = true;
            lines.add("strike " + year);
        } else if (kind == 1 && !pairs.isEmpty()) {
            Pair p = pairs.get(random.nextInt(pairs.size()));
            int side = random.nextInt(2);
            p.lost[side][year] = true;
            lines.add("lost " + year + " " + p.who(side) + " " + p.who(1 - side));
        } else if (kind > 1 && !people.isEmpty()) {
            int who = random.nextInt(people.size());
            if (kind == 2) {
                people.get(who).death = year;
            } else {
                people.get(who).move = year;
            }
            lines.add((kind == 2 ? "dies " : "moves ") + who + " " + year);
        }
    }

    String text() {
        StringBuilder text = new StringBuilder();
        for (String line : lines) {
            text.append(line).append(";");
        }
        return text.toString();
    }

    int find(int one, int two) {
        for (int i = 0; i < pairs.size(); i++) {
            Pair p = pairs.get(i);
            if (p.one == one && p.two == two || p.one == two && p.two == one) {
                return i;
            }
        }
        return -1;
    }

    static boolean sendsFirst(int rule, boolean last, boolean ahead) {
        if (!last && !ahead) {
            return (rule & 1) != 0;
        }
        if (last && !ahead) {
            return (rule & 2) != 0;
        }
        if (!last) {
            return (rule & 4) != 0;
        }
        return (rule & 8) != 0;
    }

    static boolean sendsFirst(int rule, int state, int side) {
        return side == 0 ? sendsFirst(rule, (state & 1) != 0, (state & 2) != 0)
            : sendsFirst(rule, (state & 4) != 0, (state & 8) != 0);
    }

    static int after(int state, boolean got0, boolean got1) {
        int next = 0;
        if (got0) {
            next += 1;
        }
        if ((state & 1) != 0) {
            next += 2;
        }
        if (got1) {
            next += 4;
        }
        if ((state & 4) != 0) {
            next += 8;
        }
        return next;
    }

    boolean dead(int who, int year) {
        int death = people.get(who).death;
        return death >= 0 && year >= death;
    }

    boolean comes(Pair p, int side, int year) {
        int getter = p.who(1 - side);
        return !strikes[year] && !p.lost[side][year] && !dead(getter, year) && people.get(getter).move != year;
    }

    Run run(Pair p, int rule0, int rule1, int begun, int quitSide, int quitYear) {
        Run r = new Run();
        r.sends = new int[2][years];
        r.got = new boolean[2][years];
        r.states = new int[years + 1];
        r.states[0] = begun;
        int[] rules = {rule0, rule1};
        for (int y = 0; y < years; y++) {
            boolean[] cameFirst = new boolean[2];
            boolean[] able = new boolean[2];
            for (int side = 0; side < 2; side++) {
                able[side] = !dead(p.who(side), y) && !(side == quitSide && y >= quitYear);
                if (able[side] && sendsFirst(rules[side], r.states[y], side)) {
                    r.sends[side][y] = 1;
                    cameFirst[1 - side] = comes(p, side, y);
                }
            }
            for (int side = 0; side < 2; side++) {
                r.got[side][y] = cameFirst[side];
            }
            for (int side = 0; side < 2; side++) {
                if (r.sends[side][y] == 0 && able[side] && rules[side] >= 16 && cameFirst[side]) {
                    r.sends[side][y] = 2;
                    if (comes(p, side, y)) {
                        r.got[1 - side][y] = true;
                    }
                }
            }
            r.states[y + 1] = after(r.states[y], r.got[0][y], r.got[1][y]);
        }
        return r;
    }

    Run run(Pair p) {
        return run(p, people.get(p.one).full(), people.get(p.two).full(), p.begun, -1, 0);
    }

    int hurts(Run r, int side) {
        int hurts = 0;
        for (int y = 0; y < years; y++) {
            if (r.sends[side][y] != 0 && !r.got[side][y]) {
                hurts++;
            }
        }
        return hurts;
    }

    int shames(Run r, int side) {
        int shames = 0;
        for (int y = 0; y < years; y++) {
            if (r.sends[side][y] == 0 && r.got[side][y]) {
                shames++;
            }
        }
        return shames;
    }

    int sent(Run r, int side) {
        int sent = 0;
        for (int y = 0; y < years; y++) {
            if (r.sends[side][y] != 0) {
                sent++;
            }
        }
        return sent;
    }

    int costOfSet(int set, int rule) {
        int cost = 0;
        for (Pair p : pairs) {
            boolean in0 = (set >> p.one & 1) == 1;
            boolean in1 = (set >> p.two & 1) == 1;
            Run r = run(p, in0 && rule >= 0 ? rule : people.get(p.one).full(),
                in1 && rule >= 0 ? rule : people.get(p.two).full(), p.begun, -1, 0);
            if (in0) {
                cost += card * sent(r, 0) + hurt * hurts(r, 0);
            }
            if (in1) {
                cost += card * sent(r, 1) + hurt * hurts(r, 1);
            }
        }
        return cost;
    }

    /** Who sends in a year of rules alone; lostSide's card does not come. */
    static boolean[] sendIn(int rule0, int rule1, int state, int lostSide) {
        boolean first0 = sendsFirst(rule0, state, 0);
        boolean first1 = sendsFirst(rule1, state, 1);
        boolean back0 = !first0 && rule0 >= 16 && first1 && lostSide != 1;
        boolean back1 = !first1 && rule1 >= 16 && first0 && lostSide != 0;
        return new boolean[] {first0 || back0, first1 || back1};
    }

    static int next(int rule0, int rule1, int state, int lostSide) {
        boolean[] sent = sendIn(rule0, rule1, state, lostSide);
        return after(state, sent[1] && lostSide != 1, sent[0] && lostSide != 0);
    }

    /** Begins, length, cards, kind; behind them the states of the round. */
    static List<Integer> fate(int rule0, int rule1, int state) {
        List<Integer> path = new ArrayList<>();
        int s = state;
        while (!path.contains(s)) {
            path.add(s);
            s = next(rule0, rule1, s, -1);
        }
        int begins = path.indexOf(s);
        List<Integer> round = path.subList(begins, path.size());
        int cards = 0;
        boolean all = true;
        for (int t : round) {
            boolean[] sent = sendIn(rule0, rule1, t, -1);
            cards += (sent[0] ? 1 : 0) + (sent[1] ? 1 : 0);
            all = all && sent[0] && sent[1];
        }
        List<Integer> answer = new ArrayList<>();
        answer.add(begins);
        answer.add(round.size());
        answer.add(cards);
        answer.add(cards == 0 ? 0 : all ? 1 : 2);
        answer.addAll(round);
        return answer;
    }

    /** The first best row as text of 0 and 1 behind its worth, or null; every row is tried. */
    String bestRow(Pair p, int side, int n, boolean toEnd) {
        int other = people.get(p.who(1 - side)).full();
        int least = Integer.MAX_VALUE;
        String best = null;
        for (int code = 0; code < 1 << n; code++) {
            StringBuilder row = new StringBuilder();
            int state = p.begun;
            int worth = 0;
            boolean bothLast = false;
            for (int y = 0; y < n; y++) {
                boolean own = (code >> (n - 1 - y) & 1) == 1;
                row.append(own ? 1 : 0);
                boolean theirs = sendsFirst(other, state, 1 - side) || own && other >= 16;
                if (toEnd) {
                    worth += (own ? card : 0) + (theirs ? card : 0) + (own != theirs ? hurt : 0);
                } else {
                    worth += own ? 1 : 0;
                }
                bothLast = own && theirs;
                boolean toSide0 = side == 0 ? theirs : own;
                boolean toSide1 = side == 0 ? own : theirs;
                state = after(state, toSide0, toSide1);
            }
            boolean good = toEnd ? fate(side == 0 ? 0 : other, side == 0 ? other : 0, state).get(3) == 0 : bothLast;
            if (good && worth < least) {
                least = worth;
                best = worth + ":" + row;
            }
        }
        return best;
    }

    /** Chances: any in year n, both in year n, mean cards of n years; above and below, in lowest terms. */
    BigInteger[][] chances(Pair p, int n) {
        BigInteger[] sums = {BigInteger.ZERO, BigInteger.ZERO, BigInteger.ZERO};
        // eight draws a year are more than there are, so each leaf has a whole weight
        BigInteger all = BigInteger.valueOf(100).pow(8 * n);
        branch(p, p.begun, n, 0, all, sums);
        BigInteger[][] answer = new BigInteger[3][2];
        for (int i = 0; i < 3; i++) {
            BigInteger g = sums[i].gcd(all);
            answer[i][0] = sums[i].divide(g);
            answer[i][1] = all.divide(g);
        }
        return answer;
    }

    private void branch(Pair p, int state, int left, int cards, BigInteger weight, BigInteger[] sums) {
        if (weight.signum() == 0) {
            return;
        }
        Person a = people.get(p.one);
        Person b = people.get(p.two);
        for (int draws = 0; draws < 16; draws++) {
            boolean[] forgets = {(draws & 1) != 0, (draws & 2) != 0, (draws & 4) != 0, (draws & 8) != 0};
            BigInteger w = weight;
            for (int i = 0; i < 4; i++) {
                int f = i % 2 == 0 ? a.forgets : b.forgets;
                w = w.multiply(BigInteger.valueOf(forgets[i] ? f : 100 - f)).divide(BigInteger.valueOf(100));
            }
            boolean first0 = sendsFirst(a.rule, state, 0) && !forgets[0];
            boolean first1 = sendsFirst(b.rule, state, 1) && !forgets[1];
            boolean sent0 = first0 || a.returns && first1 && !forgets[2];
            boolean sent1 = first1 || b.returns && first0 && !forgets[3];
            int sum = cards + (sent0 ? 1 : 0) + (sent1 ? 1 : 0);
            if (left > 1) {
                branch(p, after(state, sent1, sent0), left - 1, sum, w, sums);
                continue;
            }
            if (sent0 || sent1) {
                sums[0] = sums[0].add(w);
            }
            if (sent0 && sent1) {
                sums[1] = sums[1].add(w);
            }
            sums[2] = sums[2].add(w.multiply(BigInteger.valueOf(sum)));
        }
    }

    private BigInteger x;

    private boolean forgetsByDraw(int who, int[] life) {
        x = x.multiply(BigInteger.valueOf(1103515245)).add(BigInteger.valueOf(12345)).mod(BigInteger.TWO.pow(31));
        boolean forgets = x.divide(BigInteger.valueOf(65536)).intValue() % 100 < people.get(who).forgets;
        if (forgets) {
            life[2]++;
        }
        return forgets;
    }

    /** Cards, pairs silent at last, times forgotten; behind them the last year of each pair. */
    int[] life(int seed) {
        x = BigInteger.valueOf(seed);
        int[] life = new int[3 + pairs.size()];
        int[] states = new int[pairs.size()];
        for (int i = 0; i < pairs.size(); i++) {
            life[3 + i] = -1;
            states[i] = pairs.get(i).begun;
        }
        for (int y = 0; y < years; y++) {
            for (int i = 0; i < pairs.size(); i++) {
                Pair p = pairs.get(i);
                boolean[] sent = new boolean[2];
                boolean[] came = new boolean[2];
                boolean[] back = new boolean[2];
                for (int side = 0; side < 2; side++) {
                    int who = p.who(side);
                    if (!dead(who, y) && sendsFirst(people.get(who).rule, states[i], side)) {
                        sent[side] = !forgetsByDraw(who, life);
                        came[1 - side] = sent[side] && comes(p, side, y);
                    }
                }
                for (int side = 0; side < 2; side++) {
                    int who = p.who(side);
                    if (!sent[side] && !dead(who, y) && people.get(who).returns && came[side]) {
                        back[side] = !forgetsByDraw(who, life);
                    }
                }
                for (int side = 0; side < 2; side++) {
                    came[1 - side] = came[1 - side] || back[side] && comes(p, side, y);
                    if (sent[side] || back[side]) {
                        life[0]++;
                        life[3 + i] = y;
                    }
                }
                states[i] = after(states[i], came[0], came[1]);
            }
        }
        for (int i = 0; i < pairs.size(); i++) {
            if (life[3 + i] != years - 1) {
                life[1]++;
            }
        }
        return life;
    }
}
