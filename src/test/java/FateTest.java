/** Promises 25 to 34, worked out by hand. */
public final class FateTest {
    private static final Due due = new Due();

    private static final String TEXT = "land years 4 card 1 hurt 1;"
        + "person rule 10;person rule 10 returns;person rule 14;person rule 10;person rule 0;"
        + "pair 0 1 begun 5;pair 0 2 begun 5;pair 0 3 begun 5;pair 0 4 begun 0;pair 2 3 begun 9;";

    public static void main(String[] args) {
        twoRules();
        wrongRules();
        CardsAtYule x = Due.land(TEXT);
        rounds(x);
        losses(x);
        strikes(x);
        saved();
        apartFromMishaps();
        due.end();
    }

    private static void fate(int rule, int other, int state, int... want) {
        CardsAtYule x = new CardsAtYule();
        for (int what = 0; what < 4; what++) {
            due.is("fate " + rule + " " + other + " " + state + " " + what, x.fate(rule, other, state, what), want[what]);
        }
    }

    private static void twoRules() {
        fate(10, 10, 1, 1, 2, 2, 2);
        fate(10, 10, 5, 1, 1, 2, 1);
        fate(10, 10, 10, 1, 1, 0, 0);
        fate(0, 0, 15, 2, 1, 0, 0);
        fate(0, 15, 0, 2, 1, 1, 2);
        fate(16, 15, 0, 2, 1, 2, 1);
        // 1 sends, 0 does by return; then who got sends no more: 0, 5, 10, 0
        fate(16, 1, 0, 0, 3, 2, 2);
        CardsAtYule x = new CardsAtYule();
        due.is("basin 10 10 dies", x.basin(10, 10, 0), 4);
        due.is("basin 10 10 lasts", x.basin(10, 10, 1), 4);
        due.is("basin 10 10 else", x.basin(10, 10, 2), 8);
        due.is("basin 16 16", x.basin(16, 16, 0), 16);
        due.is("longest 10 10", x.longest(10, 10), 2);
        due.is("longest 15 15", x.longest(15, 15), 1);
        due.is("faithful 31", x.faithful(31), 32);
        due.is("faithful 16", x.faithful(16), 16);
    }

    private static void wrongRules() {
        CardsAtYule x = new CardsAtYule();
        int[][] wrong = {{32, 0, 0, 0}, {-1, 0, 0, 0}, {0, 32, 0, 0}, {0, -1, 0, 0}, {0, 0, 16, 0}, {0, 0, -1, 0},
            {0, 0, 0, 4}, {0, 0, 0, -1}};
        for (int[] w : wrong) {
            due.is("fate wrong", x.fate(w[0], w[1], w[2], w[3]), -2);
        }
        due.is("basin what 3", x.basin(0, 0, 3), -2);
        due.is("basin what -1", x.basin(0, 0, -1), -2);
        due.is("basin 32", x.basin(32, 0, 0), -2);
        due.is("basin other 32", x.basin(0, 32, 0), -2);
        due.is("longest 32", x.longest(32, 0), -2);
        due.is("longest other -1", x.longest(0, -1), -2);
        due.is("faithful 32", x.faithful(32), -2);
        due.is("faithful -1", x.faithful(-1), -2);
    }

    private static void rounds(CardsAtYule x) {
        int[][] want = {{1, 1, 2, 1}, {1, 1, 2, 1}, {1, 1, 2, 1}, {0, 1, 0, 0}};
        for (int pair = 0; pair < 4; pair++) {
            for (int what = 0; what < 4; what++) {
                due.is("goes " + pair + " " + what, x.goes(pair, what), want[pair][what]);
            }
        }
        due.is("goes what 4", x.goes(0, 4), -2);
        due.is("goes what -1", x.goes(0, -1), -2);
        due.is("goes 5", x.goes(5, 0), -2);
    }

    private static void losses(CardsAtYule x) {
        int[] kinds = {1, 1, 2};
        int[] back = {1, 1, 0};
        for (int pair = 0; pair < 3; pair++) {
            for (int side = 0; side < 2; side++) {
                due.is("lost " + pair + " " + side, x.lost(pair, side, 0), kinds[pair]);
                due.is("back " + pair + " " + side, x.back(pair, side), back[pair]);
            }
        }
        due.is("nothing to lose", x.lost(3, 0, 0), 0);
        due.is("no such year", x.lost(0, 0, 1), -2);
        due.is("year -1", x.lost(0, 0, -1), -2);
        due.is("side 2", x.lost(0, 2, 0), -2);
        due.is("side -1", x.lost(0, -1, 0), -2);
        due.is("pair 5", x.lost(5, 0, 0), -2);
        due.is("back side 2", x.back(0, 2), -2);
        due.is("back pair 5", x.back(5, 0), -2);
        // one who sends each year, one who sends by return: a card by return is lost, and nothing comes of it
        CardsAtYule y = Due.land("land years 1 card 0 hurt 0;person rule 15;person rule 0 returns;pair 0 1 begun 0;");
        due.is("lost first", y.lost(0, 0, 0), 1);
        due.is("lost by return", y.lost(0, 1, 0), 1);
        due.is("back from both", y.back(0, 0) + 10 * y.back(0, 1), 11);
        // to and fro, 6 and 9: what is lost ends it, what is not sent can't be lost
        y = Due.land("land years 1 card 0 hurt 0;person rule 10;person rule 10;pair 0 1 begun 9;");
        due.is("it goes round", y.goes(0, 1), 2);
        due.is("side 0 sends at first", y.lost(0, 0, 0), 0);
        due.is("side 0 does not then", y.lost(0, 0, 1), 2);
        due.is("side 1 does not at first", y.lost(0, 1, 0), 2);
        due.is("side 1 sends then", y.lost(0, 1, 1), 0);
        due.is("back of side 0", y.back(0, 0), 2);
        due.is("back of side 1", y.back(0, 1), 1);
    }

    private static void strikes(CardsAtYule x) {
        // pairs 0 and 2 come from 5 or 15 to 10 and are silent; pair 4 from 6, ahead of year 1 alone, to 8
        int[] ends = {2, 3, 2, 2};
        for (int year = 0; year < 4; year++) {
            due.is("strike " + year, x.strike(year), ends[year]);
            due.is("saves " + year, x.saves(year), 0);
        }
        due.is("strike 4", x.strike(4), -2);
        due.is("strike -1", x.strike(-1), -2);
        due.is("saves 4", x.saves(4), -2);
        due.is("saves -1", x.saves(-1), -2);
        due.is("mildest", x.mildest(), 0);
    }

    private static void saved() {
        // 15, 11, 3, 2, 0 as it goes; with a strike 10, then 1, 6, 8 and again
        CardsAtYule x = Due.land("land years 4 card 1 hurt 1;person rule 2;person rule 12;pair 0 1 begun 15;");
        int[] saves = {1, 0, 0, 0};
        for (int year = 0; year < 4; year++) {
            due.is("saves " + year, x.saves(year), saves[year]);
            due.is("strike " + year, x.strike(year), 0);
        }
    }

    /** FATE knows rules alone, but the STATE ahead of a YEAR comes from all that was told. */
    private static void apartFromMishaps() {
        String two = "land years 3 card 1 hurt 1;person rule 10;person rule 10;pair 0 1 begun 5;";
        CardsAtYule x = Due.land(two + "dies 0 2;strike 1;");
        due.is("goes", x.goes(0, 3), 1);
        due.is("ahead of all", x.strike(0), 1);
        due.is("a strike in a year of strike", x.strike(1), 1);
        due.is("dead already", x.strike(2), 0);
        due.is("the first that ends none", x.mildest(), 2);
        x = Due.land(two + "dies 0 0;dies 1 0;");
        due.is("the dead by their rules", x.strike(0), 1);
        due.is("silence", x.strike(1), 0);
    }
}
