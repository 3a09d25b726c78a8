/** Promises 38 to 47: ends and keeping as one will, quitting, best rules, worked out by hand. */
public final class WillTest {
    private static final Due due = new Due();

    public static void main(String[] args) {
        endings();
        keeping();
        wrongWill();
        quitting();
        bestRules();
        due.end();
    }

    private static CardsAtYule two(String one, String other, int begun) {
        return Due.land("land years 4 card 3 hurt 5;person rule " + one + ";person rule " + other
            + ";pair 0 1 begun " + begun + ";");
    }

    private static void ending(String name, CardsAtYule x, int side, int n, int cost, int... row) {
        due.is(name, x.ending(0, side, n), cost);
        for (int i = 0; i < n; i++) {
            due.is(name + ", year " + i, x.step(0, side, n, i), row[i]);
        }
    }

    private static void keep(String name, CardsAtYule x, int side, int n, int cards, int... row) {
        due.is(name, x.keeping(0, side, n), cards);
        for (int i = 0; i < n; i++) {
            due.is(name + ", year " + i, x.pen(0, side, n, i), row[i]);
        }
    }

    private static void endings() {
        CardsAtYule x = two("10", "10", 5);
        // the other's card is due: hurt by silence 3 + 5, together 3 + 3, and then it dies by silence
        ending("one year", x, 0, 1, 6, 1);
        ending("one year of side 1", x, 1, 1, 6, 1);
        ending("two years", x, 0, 2, 8, 0, 0);
        ending("twelve years", x, 1, 12, 8, 0, 0, 0, 0, 0, 0, 0, 0, 0, 0, 0, 0);
        ending("silent already", two("10", "10", 0), 0, 3, 0, 0, 0, 0);
        ending("who always sends", two("10", "15", 0), 0, 3, -1, -1, -1, -1);
        ending("but he himself ends it", two("10", "15", 0), 1, 1, 0, 0);
        ending("by return", two("0 returns", "0 returns", 0), 0, 2, 0, 0, 0);
        // the will is never by return, as rule 0 without return is not, behind the years
        ending("his own rule does not count", two("15 returns", "10", 0), 0, 1, 0, 0);
        // nothing lost, nobody dead: mishaps do not count
        CardsAtYule y = Due.land("land years 4 card 3 hurt 5;person rule 10;person rule 10 forgets 50;"
            + "pair 0 1 begun 5;strike 0;dies 1 0;moves 0 0;lost 0 1 0;");
        ending("by rules alone", y, 0, 2, 8, 0, 0);
        // equal costs: not ahead of sending
        y = Due.land("land years 4 card 0 hurt 0;person rule 10;person rule 10;pair 0 1 begun 5;");
        ending("all for nothing", y, 0, 3, 0, 0, 0, 0);
    }

    private static void keeping() {
        keep("at once", two("10", "10", 5), 0, 1, 1, 1);
        keep("too late", two("10", "10", 0), 0, 1, -1, -1);
        keep("won in two", two("10", "10", 0), 0, 2, 2, 1, 1);
        keep("won in three", two("10", "10", 0), 1, 3, 2, 0, 1, 1);
        keep("by return", two("10", "0 returns", 0), 0, 2, 1, 0, 1);
        keep("never", two("15 returns", "0", 15), 0, 12, -1, -1, -1, -1, -1, -1, -1, -1, -1, -1, -1, -1, -1);
        keep("always", two("0", "15", 15), 0, 3, 1, 0, 0, 1);
        keep("two ahead", two("0", "4", 0), 0, 3, 2, 1, 0, 1);
    }

    private static void wrongWill() {
        CardsAtYule x = two("10", "10", 5);
        int[][] wrong = {{1, 0, 1}, {-1, 0, 1}, {0, 2, 1}, {0, -1, 1}, {0, 0, 0}, {0, 0, 13}, {0, 0, -1}};
        for (int[] w : wrong) {
            due.is("ending wrong", x.ending(w[0], w[1], w[2]), -2);
            due.is("keeping wrong", x.keeping(w[0], w[1], w[2]), -2);
            due.is("step wrong", x.step(w[0], w[1], w[2], 0), -2);
            due.is("pen wrong", x.pen(w[0], w[1], w[2], 0), -2);
        }
        due.is("step beyond", x.step(0, 0, 2, 2), -2);
        due.is("step -1", x.step(0, 0, 2, -1), -2);
        due.is("pen beyond", x.pen(0, 0, 2, 2), -2);
        due.is("pen -1", x.pen(0, 0, 2, -1), -2);
    }

    private static void quitting() {
        CardsAtYule x = two("10", "10", 5);
        for (int year = 0; year < 4; year++) {
            due.is("one hurt, from " + year, x.quit(0, 0, year), 1);
        }
        due.is("the first of several", x.when(0, 0), 0);
        x = two("15 returns", "15", 0);
        for (int year = 0; year < 4; year++) {
            due.is("all years from " + year, x.quit(0, 0, year), 4 - year);
            due.is("of side 1 from " + year, x.quit(0, 1, year), 4 - year);
        }
        due.is("the last is least", x.when(0, 0), 3);
        x.calls(0, 1);
        due.is("a strike hurts as well", x.quit(0, 0, 3), 2);
        x = two("0 returns", "15", 0);
        due.is("none by return either", x.quit(0, 0, 1), 3);
        int[][] wrong = {{1, 0, 0}, {-1, 0, 0}, {0, 2, 0}, {0, -1, 0}, {0, 0, 4}, {0, 0, -1}};
        for (int[] w : wrong) {
            due.is("quit wrong", x.quit(w[0], w[1], w[2]), -2);
        }
        due.is("when pair 1", x.when(1, 0), -2);
        due.is("when side 2", x.when(0, 2), -2);
        due.is("when side -1", x.when(0, -1), -2);
    }

    /** Who never sends has neither cards nor hurts to pay, so RULE 0 is always the least of several. */
    private static void bestRules() {
        CardsAtYule x = two("15 returns", "15", 0);
        due.is("cost", x.cost(0), 12);
        due.is("best", x.best(0), 0);
        due.is("bestCost", x.bestCost(0), 0);
        due.is("family", x.family(3), 0);
        due.is("together", x.together(3), 0);
        due.is("best 2", x.best(2), -2);
        due.is("best -1", x.best(-1), -2);
        due.is("bestCost 2", x.bestCost(2), -2);
        due.is("family of none", x.family(0), -2);
        due.is("family of others", x.family(4), -2);
        due.is("family below 0", x.family(-1), -2);
        due.is("together of none", x.together(0), -2);
        due.is("together of others", x.together(5), -2);
        due.is("together below 0", x.together(Integer.MIN_VALUE), -2);
        due.is("nothing is changed", x.cost(0), 12);
    }
}
