/** The edges of promises 35 to 47 and of terms IV and V: chances, ends, keeping, quitting, best rules. */
public final class EdgeChoiceTest {
    private static final Due due = new Due();

    public static void main(String[] args) {
        chancesTake();
        chancesOfNoneAndAll();
        chancesOfForgettingAtItsMost();
        chancesInLowestTerms();
        chancesByRulesAlone();
        chancesOfTheLastPair();
        chancesAtTheirLongest();
        eachCallByItself();
        endingTakes();
        stepTakes();
        keepingTakes();
        penTakes();
        endsThatCannotBe();
        silenceThatIsNoEnd();
        endsAtNoCost();
        endsInOneYearAndInTwelve();
        leastOfEqualRows();
        willOfEitherSide();
        willIsNeverByReturn();
        quitAndWhenTake();
        quitFromTheFirstAndTheLastYear();
        whenByOneHurt();
        bestTakes();
        familyTakes();
        familyOfNobody();
        bestOfSeveral();
        due.end();
    }

    private static CardsAtYule full() {
        return Due.land(Edge.FULL_LAND);
    }

    private static CardsAtYule two(String one, String other, int begun) {
        return Due.land("land years 4 card 3 hurt 5;person rule " + one + ";person rule " + other
            + ";pair 0 1 begun " + begun + ";");
    }

    private static void chancesTake() {
        CardsAtYule x = full();
        Edge.taken(due, "alive of a pair", 0, 15, -2, n -> x.alive(n, 1, 0));
        Edge.taken(due, "alive in a year", 1, 3, -2, n -> x.alive(15, n, 0));
        Edge.taken(due, "what of alive", 0, 1, -2, n -> x.alive(15, 3, n));
        Edge.taken(due, "both of a pair", 0, 15, -2, n -> x.both(n, 1, 0));
        Edge.taken(due, "both in a year", 1, 3, -2, n -> x.both(15, n, 0));
        Edge.taken(due, "what of both", 0, 1, -2, n -> x.both(15, 3, n));
        Edge.taken(due, "mean of a pair", 0, 15, -2, n -> x.mean(n, 1, 0));
        Edge.taken(due, "mean in years", 1, 3, -2, n -> x.mean(15, n, 0));
        Edge.taken(due, "what of mean", 0, 1, -2, n -> x.mean(15, 3, n));
    }

    /** Three fractions: alive, both, mean. */
    private static void chances(String name, CardsAtYule x, int n, long... want) {
        for (int what = 0; what < 2; what++) {
            due.is(name + ", alive " + n + " " + what, x.alive(0, n, what), want[what]);
            due.is(name + ", both " + n + " " + what, x.both(0, n, what), want[2 + what]);
            due.is(name + ", mean " + n + " " + what, x.mean(0, n, what), want[4 + what]);
        }
    }

    private static void chancesOfNoneAndAll() {
        for (int n = 1; n <= 3; n++) {
            chances("all", two("15", "15", 0), n, 1, 1, 1, 1, 2 * n, 1);
            chances("none", two("0", "0", 15), n, 0, 1, 0, 1, 0, 1);
            chances("one", two("15", "0", 0), n, 1, 1, 0, 1, n, 1);
            chances("none though they forget", two("0 forgets 50 returns", "0 forgets 50 returns", 15), n, 0, 1, 0, 1, 0, 1);
        }
    }

    /** 50 in a hundred: each sends or not as a coin falls; one in a hundred: nearly none. */
    private static void chancesOfForgettingAtItsMost() {
        for (int n = 1; n <= 3; n++) {
            chances("coins", two("15 forgets 50", "15 forgets 50", 0), n, 3, 4, 1, 4, n, 1);
        }
        chances("once in a hundred", two("15 forgets 1", "15 forgets 1", 0), 1, 9999, 10000, 9801, 10000, 99, 50);
        chances("forty-nine", two("15 forgets 49", "0", 0), 1, 51, 100, 0, 1, 51, 100);
        chances("fifty", two("15 forgets 50", "0", 0), 1, 1, 2, 0, 1, 1, 2);
        // first by the coin, then by return by another: 3 / 4 send any; both: 1 / 4 and twice 1 / 4 times 1 / 2
        chances("by return", two("15 forgets 50 returns", "15 forgets 50 returns", 0), 1, 3, 4, 1, 2, 5, 4);
    }

    private static void chancesInLowestTerms() {
        chances("25", two("15 forgets 25", "0", 0), 1, 3, 4, 0, 1, 3, 4);
        chances("25 in two years", two("15 forgets 25", "0", 0), 2, 3, 4, 0, 1, 3, 2);
        chances("25 in three years", two("15 forgets 25", "0", 0), 3, 3, 4, 0, 1, 9, 4);
        // who must have got one each year: 9 / 10 to the third for the third card
        chances("one chain", two("2 forgets 10", "0 returns", 1), 1, 9, 10, 9, 10, 9, 5);
        chances("a chain of two", two("10 forgets 10", "0 returns", 1), 2, 81, 100, 81, 100, 171, 50);
        chances("a chain of three", two("10 forgets 10", "0 returns", 1), 3, 729, 1000, 729, 1000, 2439, 500);
    }

    private static void chancesByRulesAlone() {
        CardsAtYule x = Due.land("land years 1 card 0 hurt 0;person rule 15;person rule 15;pair 0 1 begun 0;"
            + "strike 0;dies 0 0;dies 1 0;moves 0 0;lost 0 0 1;");
        chances("more years than there are", x, 3, 1, 1, 1, 1, 6, 1);
    }

    private static void chancesOfTheLastPair() {
        CardsAtYule x = Due.land(Edge.FULL_LAND);
        x.train(1, 2, 10);
        x.train(8, 2, 20);
        x.train(0, 2, 50);
        long[] want = {49, 50, 18, 25, 17, 10};
        for (int what = 0; what < 2; what++) {
            due.is("alive of the last, " + what, x.alive(15, 1, what), want[what]);
            due.is("both of the last, " + what, x.both(15, 1, what), want[2 + what]);
            due.is("mean of the last, " + what, x.mean(15, 1, what), want[4 + what]);
        }
    }

    /** Fractions that can't be made shorter, up to the eighteen noughts of three years; worked out by Model. */
    private static void chancesAtTheirLongest() {
        CardsAtYule x = two("15 forgets 1 returns", "15 forgets 1", 0);
        due.is("both above", x.both(0, 1, 0), 99 * 99 * 101);
        due.is("both below", x.both(0, 1, 1), 1_000_000);
        chances("three years", two("11 forgets 1", "14 forgets 1 returns", 15), 3, 9998950898930499L, 10000000000000000L,
            989702108206059501L, 1000000000000000000L, 5969000237700109401L, 1000000000000000000L);
    }

    /** No call leans on what another one has worked out. */
    private static void eachCallByItself() {
        String coins = "15 forgets 50";
        due.is("alive", two(coins, coins, 0).alive(0, 1, 1), 4);
        due.is("both", two(coins, coins, 0).both(0, 1, 1), 4);
        due.is("mean", two(coins, coins, 0).mean(0, 3, 0), 3);
        due.is("ending", two("10", "10", 5).ending(0, 0, 1), 6);
        due.is("step", two("10", "10", 5).step(0, 0, 1, 0), 1);
        due.is("keeping", two("10", "10", 5).keeping(0, 0, 12), 2);
        due.is("pen", two("10", "10", 5).pen(0, 0, 12, 11), 1);
        CardsAtYule x = two("10", "10", 5);
        due.is("keeping", x.keeping(0, 0, 1), 1);
        due.is("step behind keeping", x.step(0, 0, 2, 0), 0);
        due.is("pen behind step", x.pen(0, 0, 2, 0), 1);
        due.is("ending behind pen", x.ending(0, 0, 2), 8);
    }

    private static void endingTakes() {
        CardsAtYule x = full();
        Edge.taken(due, "ending of a pair", 0, 15, -2, n -> x.ending(n, 0, 1));
        Edge.taken(due, "ending of a side", 0, 1, -2, n -> x.ending(15, n, 1));
        Edge.taken(due, "ending in years", 1, 12, -2, n -> x.ending(15, 1, n));
    }

    private static void stepTakes() {
        CardsAtYule x = two("10", "10", 5);
        Edge.taken(due, "step of a pair", 0, 0, -2, n -> x.step(n, 0, 1, 0));
        Edge.taken(due, "step of a side", 0, 1, -2, n -> x.step(0, n, 1, 0));
        Edge.taken(due, "step in years", 1, 12, -2, n -> x.step(0, 1, n, 0));
        Edge.taken(due, "step in a year of 12", 0, 11, -2, n -> x.step(0, 1, 12, n));
        Edge.taken(due, "step in a year of 1", 0, 0, -2, n -> x.step(0, 1, 1, n));
    }

    private static void keepingTakes() {
        CardsAtYule x = full();
        Edge.taken(due, "keeping of a pair", 0, 15, -2, n -> x.keeping(n, 0, 1));
        Edge.taken(due, "keeping of a side", 0, 1, -2, n -> x.keeping(15, n, 1));
        Edge.taken(due, "keeping in years", 1, 12, -2, n -> x.keeping(15, 1, n));
    }

    private static void penTakes() {
        CardsAtYule x = two("10", "10", 5);
        Edge.taken(due, "pen of a pair", 0, 0, -2, n -> x.pen(n, 0, 1, 0));
        Edge.taken(due, "pen of a side", 0, 1, -2, n -> x.pen(0, n, 1, 0));
        Edge.taken(due, "pen in years", 1, 12, -2, n -> x.pen(0, 1, n, 0));
        Edge.taken(due, "pen in a year of 12", 0, 11, -2, n -> x.pen(0, 1, 12, n));
        Edge.taken(due, "pen in a year of 1", 0, 0, -2, n -> x.pen(0, 1, 1, n));
    }

    private static void endsThatCannotBe() {
        CardsAtYule x = full();
        for (int n = 1; n <= 12; n += 11) {
            for (int side = 0; side < 2; side++) {
                due.is("who always sends is no end", x.ending(0, side, n), -1);
                due.is("no first row", x.step(0, side, n, 0), -1);
                due.is("no last row", x.step(0, side, n, n - 1), -1);
                due.is("but keeps itself by one card", x.keeping(0, side, n), 1);
            }
        }
        CardsAtYule y = two("15", "0", 15);
        for (int n = 1; n <= 12; n += 11) {
            due.is("who never sends is kept by nothing", y.keeping(0, 0, n), -1);
            due.is("no first row", y.pen(0, 0, n, 0), -1);
            due.is("no last row", y.pen(0, 0, n, n - 1), -1);
            due.is("but ends at once", y.ending(0, 0, n), 0);
        }
    }

    /** Who sends when he got none in both years: it comes to state 0 in silence, and does not die there. */
    private static void silenceThatIsNoEnd() {
        CardsAtYule x = two("0", "1", 8);
        for (int n = 1; n <= 12; n++) {
            due.is("no end in " + n, x.ending(0, 0, n), -1);
        }
        CardsAtYule y = two("1", "0", 2);
        due.is("no end from the other side", y.ending(0, 1, 1), -1);
        due.is("but from his own", y.ending(0, 0, 1), 0);
    }

    private static void endsAtNoCost() {
        CardsAtYule x = Due.land("land years 1 card 0 hurt 0;person rule 10;person rule 10;pair 0 1 begun 15;");
        due.is("all for nothing", x.ending(0, 0, 12), 0);
        due.is("cards are still counted", x.keeping(0, 0, 12), 2);
        CardsAtYule y = Due.land("land years 1 card 99 hurt 99;person rule 10;person rule 10;pair 0 1 begun 15;");
        due.is("card and hurt at their most", y.ending(0, 0, 12), 198);
        due.is("by a card of each", y.ending(0, 0, 1), 198);
        due.is("by no hurt", y.step(0, 0, 1, 0), 0);
    }

    private static void endsInOneYearAndInTwelve() {
        // who sends to who sent in both years: ahead of silence one card of his, then none
        CardsAtYule x = two("8", "8", 15);
        due.is("in one year", x.ending(0, 0, 1), 6);
        due.is("together", x.step(0, 0, 1, 0), 1);
        due.is("in two", x.ending(0, 0, 2), 8);
        due.is("apart", x.step(0, 0, 2, 0), 0);
        due.is("in twelve", x.ending(0, 1, 12), 8);
        due.is("apart", x.step(0, 1, 12, 0), 0);
        due.is("and silent at last", x.step(0, 1, 12, 11), 0);
        due.is("kept in one", x.keeping(0, 0, 1), 1);
        due.is("kept in twelve by the last three", x.keeping(0, 0, 12), 3);
        CardsAtYule y = two("8", "8", 11);
        int[] kept = {-1, -1, 3, 3, 3, 3, 3, 3, 3, 3, 3, 3};
        for (int n = 1; n <= 12; n++) {
            due.is("won back in " + n, y.keeping(0, 0, n), kept[n - 1]);
        }
    }

    private static void leastOfEqualRows() {
        // always sent to: any one card will do, but in the last year both must send
        CardsAtYule x = two("0", "15", 0);
        for (int i = 0; i < 12; i++) {
            due.is("the last year alone, " + i, x.pen(0, 0, 12, i), i == 11 ? 1 : 0);
        }
        // who sends two years behind a card: year 9 for year 11
        CardsAtYule y = two("0", "12", 0);
        due.is("two cards", y.keeping(0, 0, 12), 2);
        for (int i = 0; i < 12; i++) {
            due.is("as late as can be, " + i, y.pen(0, 0, 12, i), i == 9 || i == 11 ? 1 : 0);
        }
    }

    /** The other side's card is due in state 1 from side 0, in state 4 from side 1. */
    private static void willOfEitherSide() {
        String[] rules = {"0", "10"};
        for (int side = 0; side < 2; side++) {
            int due0 = side == 0 ? 4 : 1;
            CardsAtYule x = two(rules[side], rules[1 - side], due0);
            due.is("kept by side " + side, x.keeping(0, side, 1), 1);
            due.is("by a card", x.pen(0, side, 1, 0), 1);
            due.is("ended by side " + side, x.ending(0, side, 1), 6);
            due.is("by a card", x.step(0, side, 1, 0), 1);
            CardsAtYule y = two(rules[side], rules[1 - side], 5 - due0);
            due.is("not kept by side " + side, y.keeping(0, side, 1), -1);
            due.is("by none", y.pen(0, side, 1, 0), -1);
            due.is("ended already for side " + side, y.ending(0, side, 1), 0);
            due.is("by none", y.step(0, side, 1, 0), 0);
        }
        CardsAtYule z = Due.land(Edge.FULL_LAND);
        z.train(8, 0, 0);
        due.is("the last pair is not kept by side 0", z.keeping(15, 0, 12), -1);
        due.is("but by side 1", z.keeping(15, 1, 12), 1);
        due.is("it ends by side 0", z.ending(15, 0, 12), 0);
        due.is("but not by side 1", z.ending(15, 1, 12), -1);
    }

    private static void willIsNeverByReturn() {
        CardsAtYule x = two("0 returns", "15", 0);
        due.is("kept by a card of one's own", x.keeping(0, 0, 1), 1);
        due.is("which one sends first", x.pen(0, 0, 1, 0), 1);
        CardsAtYule y = two("0 returns", "10", 4);
        due.is("hurt by silence", y.ending(0, 0, 2), 8);
        CardsAtYule z = two("10", "0 returns", 0);
        due.is("the other goes by return", z.keeping(0, 0, 1), 1);
        due.is("and ends by none", z.ending(0, 0, 1), 0);
    }

    private static void quitAndWhenTake() {
        CardsAtYule x = full();
        Edge.taken(due, "quit of a pair", 0, 15, -2, n -> x.quit(n, 0, 0));
        Edge.taken(due, "quit of a side", 0, 1, -2, n -> x.quit(15, n, 0));
        Edge.taken(due, "quit from a year", 0, 39, -2, n -> x.quit(15, 1, n));
        Edge.taken(due, "when of a pair", 0, 15, -2, n -> x.when(n, 0));
        Edge.taken(due, "when of a side", 0, 1, -2, n -> x.when(15, n));
        CardsAtYule y = Due.land("land years 1 card 0 hurt 0;person rule 15;person rule 15;pair 0 1 begun 0;");
        Edge.taken(due, "quit from one year", 0, 0, -2, n -> y.quit(0, 0, n));
        due.is("when of one year", y.when(0, 0), 0);
    }

    private static void quitFromTheFirstAndTheLastYear() {
        CardsAtYule x = full();
        due.is("from the first", x.quit(0, 0, 0), 40);
        due.is("from the last", x.quit(0, 0, 39), 1);
        due.is("the last is least", x.when(0, 0), 39);
        due.is("all goes on as told", x.hurts(1, 0), 0);
        CardsAtYule y = Due.land(Edge.FULL_LAND.replace("rule 15", "rule 10"));
        due.is("one hurt, then he stops as well", y.quit(0, 1, 0), 1);
        due.is("one hurt at last", y.quit(0, 1, 39), 1);
        due.is("the first of several", y.when(0, 1), 0);
        CardsAtYule z = two("15", "0", 0);
        due.is("who never sends is never hurt", z.when(0, 0), 0);
        due.is("never", z.quit(0, 0, 0), 0);
    }

    private static void whenByOneHurt() {
        CardsAtYule x = Due.land(Edge.FULL_LAND);
        for (int year = 1; year < 40; year++) {
            x.calls(year, 1);
        }
        due.is("from the first", x.quit(15, 0, 0), 40);
        due.is("from the second", x.quit(15, 0, 1), 39);
        due.is("from the last", x.quit(15, 0, 39), 39);
        due.is("the first of the least", x.when(15, 0), 1);
    }

    private static void bestTakes() {
        CardsAtYule x = full();
        Edge.taken(due, "best of a person", 0, 9, -2, n -> x.best(n));
        Edge.taken(due, "bestCost of a person", 0, 9, -2, n -> x.bestCost(n));
    }

    private static void familyTakes() {
        CardsAtYule x = full();
        Edge.taken(due, "family of a set", 1, 1023, -2, n -> x.family(n));
        Edge.taken(due, "together of a set", 1, 1023, -2, n -> x.together(n));
        for (int bit = 0; bit < 32; bit++) {
            due.is("family of one, " + bit, x.family(1 << bit), bit < 10 ? 0 : -2);
            due.is("together of one, " + bit, x.together(1 << bit), bit < 10 ? 0 : -2);
            due.is("family of one and another, " + bit, x.family(1 | 1 << bit), bit < 10 ? 0 : -2);
        }
        CardsAtYule y = two("15", "15", 0);
        Edge.taken(due, "family of a set of two", 1, 3, -2, n -> y.family(n));
        Edge.taken(due, "together of a set of two", 1, 3, -2, n -> y.together(n));
    }

    private static void familyOfNobody() {
        CardsAtYule x = Due.land("land years 1 card 1 hurt 1;");
        int[] sets = {0, 1, 2, 1023, -1, Integer.MIN_VALUE};
        for (int set : sets) {
            due.is("family of " + set, x.family(set), -2);
            due.is("together of " + set, x.together(set), -2);
        }
        CardsAtYule y = Due.land("land years 1 card 1 hurt 1;person rule 15;");
        due.is("family of one", y.family(1), 0);
        due.is("together of one", y.together(1), 0);
        due.is("best without a pair", y.best(0), 0);
    }

    /** All cost nothing where nobody can send or cards are free, and never to send costs nothing anyway. */
    private static void bestOfSeveral() {
        CardsAtYule x = Due.land("land years 4 card 0 hurt 0;person rule 15;person rule 15;pair 0 1 begun 15;");
        due.is("the least of 32", x.best(0), 0);
        due.is("the least of 32 for a family", x.family(3), 0);
        due.is("cost", x.bestCost(0), 0);
        due.is("what he has stays", x.person(0, 0), 15);
    }
}
