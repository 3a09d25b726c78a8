/** The edges of promises 25 to 34 and of term III: rules, states, rounds, one lost card, strikes. */
public final class EdgeFateTest {
    private static final Due due = new Due();

    /** Rules 3 and 6 go through all states but 12 in one round of 15 years. */
    private static final String LONGEST = "land years 1 card 0 hurt 0;person rule 3;person rule 6;pair 0 1 begun ";

    public static void main(String[] args) {
        fateTakes();
        fateAtItsShortestAndLongest();
        fateOfRuleAndReturn();
        goesTakes();
        goesByRulesAlone();
        basinTakes();
        basinOfAllAndNone();
        longestTakes();
        faithfulTakes();
        faithfulToAll();
        lostTakes();
        lostOfWhoSendsNothing();
        lostAlsoByReturn();
        backOfShortAndLongRounds();
        backTakes();
        strikeAndSavesTake();
        strikeEndsAllOrNone();
        strikeSavesAll();
        mildestOfSeveral();
        mildestByOnePair();
        due.end();
    }

    private static void fateTakes() {
        CardsAtYule x = new CardsAtYule();
        Edge.taken(due, "fate of a rule", 0, 31, -2, n -> x.fate(n, 31, 15, 3));
        Edge.taken(due, "fate with a rule", 0, 31, -2, n -> x.fate(31, n, 15, 3));
        Edge.taken(due, "fate from a state", 0, 15, -2, n -> x.fate(31, 31, n, 3));
        Edge.taken(due, "what of a fate", 0, 3, -2, n -> x.fate(31, 31, 15, n));
    }

    private static void fate(int rule, int other, int state, int... want) {
        CardsAtYule x = new CardsAtYule();
        for (int what = 0; what < 4; what++) {
            due.is("fate " + rule + " " + other + " " + state + " " + what, x.fate(rule, other, state, what), want[what]);
        }
    }

    private static void fateAtItsShortestAndLongest() {
        fate(0, 0, 0, 0, 1, 0, 0);
        fate(15, 15, 15, 0, 1, 2, 1);
        fate(15, 15, 0, 2, 1, 2, 1);
        for (int state = 0; state < 16; state++) {
            if (state == 12) {
                fate(3, 6, state, 0, 1, 1, 2);
            } else {
                fate(3, 6, state, 0, 15, 15, 2);
            }
        }
        // 15, 14, 12: who never tires, to who never sends
        fate(15, 0, 15, 2, 1, 1, 2);
    }

    /** Both send in each year of it, one of them by return: it lasts. */
    private static void fateOfRuleAndReturn() {
        fate(15, 16, 0, 2, 1, 2, 1);
        fate(16, 15, 0, 2, 1, 2, 1);
        fate(15, 0, 0, 2, 1, 1, 2);
        fate(16, 16, 15, 2, 1, 0, 0);
        fate(31, 16, 15, 0, 1, 2, 1);
    }

    private static void goesTakes() {
        CardsAtYule x = Due.land(Edge.FULL_LAND);
        Edge.taken(due, "goes of a pair", 0, 15, -2, n -> x.goes(n, 3));
        Edge.taken(due, "what of goes", 0, 3, -2, n -> x.goes(15, n));
    }

    private static void goesByRulesAlone() {
        CardsAtYule x = Due.land("land years 1 card 0 hurt 0;person rule 15 forgets 50;person rule 0 returns;"
            + "pair 0 1 begun 0;strike 0;dies 0 0;moves 1 0;lost 0 0 1;");
        due.is("begins", x.goes(0, 0), 2);
        due.is("length", x.goes(0, 1), 1);
        due.is("cards", x.goes(0, 2), 2);
        due.is("it lasts", x.goes(0, 3), 1);
        x.begin(0, 5);
        due.is("begins from another state", x.goes(0, 0), 1);
        x.begin(0, 15);
        due.is("begins at once", x.goes(0, 0), 0);
    }

    private static void basinTakes() {
        CardsAtYule x = new CardsAtYule();
        Edge.taken(due, "basin of a rule", 0, 31, -2, n -> x.basin(n, 31, 2));
        Edge.taken(due, "basin with a rule", 0, 31, -2, n -> x.basin(31, n, 2));
        Edge.taken(due, "what of a basin", 0, 2, -2, n -> x.basin(31, 31, n));
    }

    private static void basinOfAllAndNone() {
        int[][] want = {{0, 0, 16, 0, 0}, {15, 15, 0, 16, 0}, {31, 31, 0, 16, 0}, {15, 0, 0, 0, 16}, {3, 6, 0, 0, 16},
            {16, 15, 0, 16, 0}, {10, 10, 4, 4, 8}};
        CardsAtYule x = new CardsAtYule();
        for (int[] w : want) {
            for (int what = 0; what < 3; what++) {
                due.is("basin " + w[0] + " " + w[1] + " " + what, x.basin(w[0], w[1], what), w[2 + what]);
            }
        }
    }

    private static void longestTakes() {
        CardsAtYule x = new CardsAtYule();
        Edge.taken(due, "longest of a rule", 0, 31, -2, n -> x.longest(n, 31));
        Edge.taken(due, "longest with a rule", 0, 31, -2, n -> x.longest(31, n));
        due.is("the shortest", x.longest(0, 0), 1);
        due.is("the longest", x.longest(3, 6), 15);
        due.is("the longest from its other side", x.longest(6, 3), 15);
    }

    private static void faithfulTakes() {
        CardsAtYule x = new CardsAtYule();
        Edge.taken(due, "faithful of a rule", 0, 31, -2, n -> x.faithful(n));
    }

    /** Only from state 0 on can all be silent for good, and there it is unless one of them sends who got none. */
    private static void faithfulToAll() {
        CardsAtYule x = new CardsAtYule();
        due.is("of who always sends", x.faithful(15), 32);
        due.is("of who always sends, by return", x.faithful(31), 32);
        due.is("of who never sends", x.faithful(0), 16);
        due.is("of who sends by return alone", x.faithful(16), 16);
        for (int rule = 0; rule < 32; rule++) {
            due.is("faithful " + rule, x.faithful(rule), rule % 2 == 1 ? 32 : 16);
        }
    }

    private static void lostTakes() {
        CardsAtYule x = Due.land(Edge.FULL_LAND);
        Edge.taken(due, "lost of a pair", 0, 15, -2, n -> x.lost(n, 0, 0));
        Edge.taken(due, "lost of a side", 0, 1, -2, n -> x.lost(15, n, 0));
        Edge.taken(due, "lost in a round of one year", 0, 0, -2, n -> x.lost(15, 1, n));
        CardsAtYule y = Due.land(LONGEST + "4;");
        Edge.taken(due, "lost in a round of 15 years", 0, 14, -2, n -> y.lost(0, 0, n));
        CardsAtYule z = Due.land(LONGEST + "12;");
        Edge.taken(due, "lost in its other round", 0, 0, -2, n -> z.lost(0, 0, n));
    }

    private static void lostOfWhoSendsNothing() {
        CardsAtYule x = Due.land("land years 1 card 0 hurt 0;person rule 10;person rule 10;pair 0 1 begun 1;");
        // 1, 6, 9, 6: the round is 6, 9; in 6 side 1 sends, in 9 side 0
        due.is("begins", x.goes(0, 0), 1);
        due.is("length", x.goes(0, 1), 2);
        due.is("side 0 sends none at first", x.lost(0, 0, 0), 2);
        due.is("side 1 sends at first", x.lost(0, 1, 0), 0);
        due.is("side 0 sends then", x.lost(0, 0, 1), 0);
        due.is("side 1 sends none then", x.lost(0, 1, 1), 2);
    }

    private static void lostAlsoByReturn() {
        // each year side 0 sends and side 1 does by return, by what it got: nothing ends it
        String text = "land years 1 card 0 hurt 0;person rule 10;person rule 0 returns;pair 0 1 begun 1;";
        CardsAtYule x = Due.land(text);
        due.is("it lasts", x.goes(0, 3), 1);
        due.is("the first card is lost, none comes back", x.lost(0, 0, 0), 0);
        due.is("the card by return is lost", x.lost(0, 1, 0), 0);
        CardsAtYule y = Due.land(text.replace("rule 10", "rule 14"));
        due.is("two years' memory, the first card", y.lost(0, 0, 0), 1);
        due.is("two years' memory, the card by return", y.lost(0, 1, 0), 1);
    }

    private static void backOfShortAndLongRounds() {
        CardsAtYule x = Due.land(LONGEST + "4;");
        due.is("side 0's never leads to state 12", x.back(0, 0), 0x7FFF);
        due.is("side 1's does from state 4, the first", x.back(0, 1), 0x7FFE);
        due.is("and goes round there", x.lost(0, 1, 0), 2);
        CardsAtYule y = Due.land(LONGEST + "12;");
        due.is("side 0 sends each year, and does not come back", y.back(0, 0), 0);
        due.is("side 1 has none to lose", y.back(0, 1), 1);
        CardsAtYule z = Due.land(Edge.FULL_LAND);
        due.is("one year, and back", z.back(0, 0), 1);
        z.train(0, 0, 10);
        z.train(1, 0, 10);
        due.is("one year, and not back", z.back(0, 0), 0);
    }

    private static void backTakes() {
        CardsAtYule x = Due.land(Edge.FULL_LAND);
        Edge.taken(due, "back of a pair", 0, 15, -2, n -> x.back(n, 0));
        Edge.taken(due, "back of a side", 0, 1, -2, n -> x.back(15, n));
    }

    private static void strikeAndSavesTake() {
        CardsAtYule x = Due.land(Edge.FULL_LAND);
        Edge.taken(due, "strike in a year", 0, 39, -2, n -> x.strike(n));
        Edge.taken(due, "saves in a year", 0, 39, -2, n -> x.saves(n));
        CardsAtYule y = Due.land("land years 1 card 0 hurt 0;");
        Edge.taken(due, "strike in one year", 0, 0, -2, n -> y.strike(n));
        Edge.taken(due, "saves in one year", 0, 0, -2, n -> y.saves(n));
    }

    private static void strikeEndsAllOrNone() {
        due.is("none of who always send", Due.land(Edge.FULL_LAND).strike(39), 0);
        // who sends to who sent in the last year: one strike ends all; the year is as good as any
        CardsAtYule x = Due.land(Edge.FULL_LAND.replace("rule 15", "rule 10"));
        due.is("all in the first year", x.strike(0), 16);
        due.is("all in the last year", x.strike(39), 16);
        due.is("and saves none", x.saves(39), 0);
        x.calls(0, 1);
        due.is("ended already, but not ahead of it", x.strike(0), 16);
        due.is("ended already", x.strike(1), 0);
    }

    private static void strikeSavesAll() {
        // 15, 11, 3, 2, 0 as it goes; with a strike 10, then 1, 6, 8 and again
        StringBuilder text = new StringBuilder("land years 40 card 0 hurt 0;");
        text.append("person rule 2;".repeat(4)).append("person rule 12;".repeat(4));
        for (int i = 0; i < 16; i++) {
            text.append("pair ").append(i / 4).append(' ').append(4 + i % 4).append(" begun 15;");
        }
        CardsAtYule x = Due.land(text.toString());
        due.is("all in the first year", x.saves(0), 16);
        due.is("none in the second", x.saves(1), 0);
        due.is("none in the last", x.saves(39), 0);
        due.is("and ends none", x.strike(0), 0);
    }

    private static void mildestByOnePair() {
        CardsAtYule x = Due.land(Edge.FULL_LAND.replace("rule 15", "rule 10"));
        x.lose(15, 0, 38, 1);
        x.lose(15, 1, 38, 1);
        due.is("all but one are ended", x.strike(39), 15);
        due.is("in the other years all", x.strike(38), 16);
        due.is("the mildest", x.mildest(), 39);
    }

    private static void mildestOfSeveral() {
        due.is("no land", new CardsAtYule().mildest(), -2);
        due.is("no pairs", Due.land("land years 40 card 1 hurt 1;").mildest(), 0);
        due.is("the first of forty", Due.land(Edge.FULL_LAND).mildest(), 0);
        CardsAtYule x = Due.land(Edge.FULL_LAND.replace("rule 15", "rule 10"));
        due.is("the first of forty that end all", x.mildest(), 0);
        x.calls(39, 1);
        due.is("what is over behind the last year is over in none", x.mildest(), 0);
        x.calls(38, 1);
        due.is("the last, when all is over", x.mildest(), 39);
        x.calls(20, 1);
        due.is("the first of those when all is over", x.mildest(), 21);
    }
}
