import java.io.IOException;

/** Promises 25 to 47, part by part, each with answers that are worked out by hand. */
public final class SaidFateTest {
    /** States ahead of years 0 .. 6: pair 0 has 5 15 15 11 7 10 0, pair 1 has 5 15 11 7 15 10 1. */
    private static final String YULE = "land years 6 card 3 hurt 5;"
        + "person rule 10;person rule 10 returns;person rule 14 forgets 25;"
        + "pair 0 1 begun 5;pair 0 2 begun 5;lost 2 0 1;strike 4;moves 2 1;";

    private final Sentences doc = new Sentences();

    private SaidFateTest() throws IOException {
    }

    public static void main(String[] args) throws IOException {
        SaidFateTest test = new SaidFateTest();
        test.fate();
        test.goes();
        test.basin();
        test.longest();
        test.faithful();
        test.lost();
        test.back();
        test.strike();
        test.saves();
        test.mildest();
        test.alive();
        test.both();
        test.mean();
        test.ending();
        test.step();
        test.keeping();
        test.pen();
        test.quit();
        test.when();
        test.best();
        test.bestCost();
        test.family();
        test.together();
        test.doc.endOfPromises(25, 47);
    }

    private static CardsAtYule pairOf(String rule0, String rule1, int begun) {
        return Due.land("land years 4 card 3 hurt 2;person rule " + rule0 + ";person rule " + rule1 + ";pair 0 1 begun "
            + begun + ";");
    }

    private void fate() {
        doc.section("Promise 25: fate");
        doc.says("FATE (III) of two RULES (by return: and 16) from a STATE, what 0: in how many years the ROUND begins, 1: how "
            + "long it is, 2: cards that are sent in it, 3: 0 it dies, 1 it lasts, 2 else.");
        CardsAtYule x = new CardsAtYule();
        fate(x, 10, 10, 1, 1, 2, 2, 2);
        fate(x, 10, 10, 5, 1, 1, 2, 1);
        fate(x, 10, 10, 0, 0, 1, 0, 0);
        // 9: side 0 sends, side 1 by return: 7, then both first: 15
        fate(x, 10, 26, 9, 2, 1, 2, 1);
        // the same with the sides changed: 6, 13, 15
        fate(x, 26, 10, 6, 2, 1, 2, 1);
        // 3, 2, 0, 4, 12: side 0 sends to who sent none in two years, side 1 never
        fate(x, 1, 0, 3, 4, 1, 1, 2);
        // 0, 5, 14, 12: side 1 sends to who sent none in two years, side 0 always
        fate(x, 15, 1, 0, 3, 1, 1, 2);

        doc.says("-2: there are none such.");
        doc.all("no such", -2, x.fate(-1, 0, 0, 0), x.fate(32, 0, 0, 0), x.fate(0, -1, 0, 0), x.fate(0, 32, 0, 0),
            x.fate(0, 0, -1, 0), x.fate(0, 0, 16, 0), x.fate(0, 0, 0, -1), x.fate(0, 0, 0, 4));
        doc.is("the highest are there", x.fate(31, 31, 15, 3), 1);
    }

    private void fate(CardsAtYule x, int rule, int other, int state, long... want) {
        doc.are("fate of " + rule + ", " + other + " from " + state, new long[] {x.fate(rule, other, state, 0),
            x.fate(rule, other, state, 1), x.fate(rule, other, state, 2), x.fate(rule, other, state, 3)}, want);
    }

    private void goes() {
        doc.section("Promise 26: goes");
        doc.says("FATE of a PAIR from its beginning, its rules alone.");
        CardsAtYule x = Due.land(YULE + "dies 0 0;pair 1 2 begun 9;");
        doc.are("pair 0", new long[] {x.goes(0, 0), x.goes(0, 1), x.goes(0, 2), x.goes(0, 3)}, 1, 1, 2, 1);
        // 26 and 14 from 9: both send, 7, 15
        doc.are("pair 2", new long[] {x.goes(2, 0), x.goes(2, 1), x.goes(2, 2), x.goes(2, 3)}, 2, 1, 2, 1);
        x = pairOf("10", "10 forgets 50", 6);
        doc.are("it goes round", new long[] {x.goes(0, 0), x.goes(0, 1), x.goes(0, 2), x.goes(0, 3)}, 0, 2, 2, 2);

        doc.says("-2: there are none such.");
        doc.all("no such", -2, x.goes(1, 0), x.goes(-1, 0), x.goes(0, 4), x.goes(0, -1));
    }

    private void basin() {
        doc.section("Promise 27: basin");
        doc.says("How many of the 16 STATES die by two such RULES (what 0), last (1), else (2).");
        CardsAtYule x = new CardsAtYule();
        doc.are("10, 10", new long[] {x.basin(10, 10, 0), x.basin(10, 10, 1), x.basin(10, 10, 2)}, 4, 4, 8);
        doc.are("10, 26", new long[] {x.basin(10, 26, 0), x.basin(10, 26, 1), x.basin(10, 26, 2)}, 4, 12, 0);
        doc.are("15, 0", new long[] {x.basin(15, 0, 0), x.basin(15, 0, 1), x.basin(15, 0, 2)}, 0, 0, 16);
        doc.are("15, 16", new long[] {x.basin(15, 16, 0), x.basin(15, 16, 1), x.basin(15, 16, 2)}, 0, 16, 0);

        doc.says("-2: there are none such.");
        doc.all("no such", -2, x.basin(-1, 0, 0), x.basin(32, 0, 0), x.basin(0, -1, 0), x.basin(0, 32, 0), x.basin(0, 0, -1),
            x.basin(0, 0, 3));
    }

    private void longest() {
        doc.section("Promise 28: longest");
        doc.says("The longest ROUND of two such RULES from any STATE.");
        CardsAtYule x = new CardsAtYule();
        doc.are("0, 0; 10, 10; 10, 26; 5, 5", new long[] {x.longest(0, 0), x.longest(10, 10), x.longest(10, 26),
            x.longest(5, 5)}, 1, 2, 1, 2);
        // 1 and 1 from 0: both send, 5, 10, 0 again
        doc.is("1, 1", x.longest(1, 1), 3);
        // side 0 sends to who sent last year, side 1 to who did not: 0 1 5 4 by last years alone
        doc.is("10, 5", x.longest(10, 5), 4);

        doc.says("-2: there are none such.");
        doc.all("no such", -2, x.longest(-1, 0), x.longest(32, 0), x.longest(0, -1), x.longest(0, 32));
    }

    private void faithful() {
        doc.section("Promise 29: faithful");
        doc.says("How many of 32 RULES never let a PAIR with one die, from whatever STATE.");
        CardsAtYule x = new CardsAtYule();
        // who sends to who sent none in two years keeps every pair alive, and nobody else does from state 0
        doc.are("0, 14, 16, 30", new long[] {x.faithful(0), x.faithful(14), x.faithful(16), x.faithful(30)}, 16, 16, 16, 16);
        doc.are("1, 15, 17, 31", new long[] {x.faithful(1), x.faithful(15), x.faithful(17), x.faithful(31)}, 32, 32, 32, 32);

        doc.says("-2: there is no such RULE.");
        doc.all("no such", -2, x.faithful(-1), x.faithful(32));
    }

    private void lost() {
        doc.section("Promise 30: lost");
        doc.says("ONE lost card (III): in a PAIR's ROUND, in its year i (from 0), a side's is lost (if it sends then): what it "
            + "comes to: 0, 1, 2 as FATE 3.");
        CardsAtYule x = pairOf("10", "10", 6);
        // 6, 9: side 1 sends in the first of them, side 0 in the second; who gets none then ends it
        doc.are("it dies", new long[] {x.lost(0, 1, 0), x.lost(0, 0, 1)}, 0, 0);
        doc.are("if it does not send", new long[] {x.lost(0, 0, 0), x.lost(0, 1, 1)}, 2, 2);
        x = pairOf("10", "10", 5);
        doc.are("it goes round", new long[] {x.lost(0, 0, 0), x.lost(0, 1, 0)}, 2, 2);
        x = Due.land(YULE);
        doc.are("it lasts", new long[] {x.lost(0, 0, 0), x.lost(0, 1, 0), x.lost(1, 0, 0), x.lost(1, 1, 0)}, 1, 1, 1, 1);

        doc.says("-2: there are none such, no such year.");
        doc.all("no such", -2, x.lost(2, 0, 0), x.lost(-1, 0, 0), x.lost(0, 2, 0), x.lost(0, -1, 0), x.lost(0, 0, 1),
            x.lost(0, 0, -1), pairOf("10", "10", 6).lost(0, 0, 2));
    }

    private void back() {
        doc.section("Promise 31: back");
        doc.says("Years of the ROUND (bits) in which one so lost lets it come back to the same ROUND of itself.");
        CardsAtYule x = Due.land(YULE);
        doc.are("10 and 26; 10 and 14", new long[] {x.back(0, 0), x.back(0, 1), x.back(1, 0), x.back(1, 1)}, 1, 1, 1, 1);
        doc.are("10 and 10", new long[] {pairOf("10", "10", 5).back(0, 0), pairOf("10", "10", 5).back(0, 1)}, 0, 0);
        // 5, 10: nobody sends in the first; one lost in the second comes to 1, 3, where the same side sends for ever
        x = pairOf("5", "5", 5);
        doc.are("5 and 5, by the year in which nothing can be lost", new long[] {x.back(0, 0), x.back(0, 1)}, 1, 1);
        // 0, 5, 10: both send in the first; one lost then comes to 1, 3, where the same side sends for ever
        x = pairOf("1", "1", 0);
        doc.are("1 and 1", new long[] {x.back(0, 0), x.back(0, 1)}, 6, 6);

        doc.says("-2: there are none such.");
        doc.all("no such", -2, x.back(1, 0), x.back(-1, 0), x.back(0, 2), x.back(0, -1));
    }

    private void strike() {
        doc.section("Promise 32: strike");
        doc.says("STRIKE: PAIRS that do not die by FATE from the STATE ahead of a YEAR, but do, if that were one of strike.");
        CardsAtYule x = Due.land(YULE);
        // pair 0 ends from 5 and 15 (10), 11 (2), 7 (10), and is dead from 10; pair 1 from 11 (2) and 10 (0) alone
        doc.are("strike", new long[] {x.strike(0), x.strike(1), x.strike(2), x.strike(3), x.strike(4), x.strike(5)},
            1, 1, 2, 1, 1, 1);

        doc.says("-2: there is no such YEAR.");
        doc.all("no such", -2, x.strike(6), x.strike(-1));
    }

    private void saves() {
        doc.section("Promise 33: saves");
        doc.says("PAIRS that die so, but do not with the strike.");
        // 13, 15, 11, 3, 2, 0 as it goes; with a strike ahead of 13 or 15: 10, 1, 6, 8, 1; ahead of 11: 2, 0
        CardsAtYule x = pairOf("2", "12", 13);
        doc.are("rules 2 and 12", new long[] {x.goes(0, 3), x.saves(0), x.saves(1), x.saves(2), x.saves(3)}, 0, 1, 1, 0, 0);
        doc.are("it ends none", new long[] {x.strike(0), x.strike(1)}, 0, 0);
        doc.is("what lives is not saved", pairOf("10", "10", 5).saves(0), 0);
        doc.is("what is dead either way is not saved", pairOf("10", "10", 0).saves(0), 0);
        doc.is("two of three", Due.land("land years 1 card 0 hurt 0;person rule 2;person rule 12;person rule 12;person rule 0;"
            + "pair 0 1 begun 15;pair 2 0 begun 7;pair 3 0 begun 15;").saves(0), 2);

        doc.says("-2 likewise.");
        doc.all("no such", -2, x.saves(4), x.saves(-1));
    }

    private void mildest() {
        doc.section("Promise 34: mildest");
        doc.says("The YEAR in which a strike ends fewest, the first of several.");
        doc.is("1 1 2 1 1 1", Due.land(YULE).mildest(), 0);
        CardsAtYule x = pairOf("10", "10", 5);
        x.calls(1, 1);
        doc.are("1 1 0 0", new long[] {x.strike(0), x.strike(1), x.strike(2), x.strike(3), x.mildest()}, 1, 1, 0, 0, 2);
        doc.is("nobody", Due.land("land years 2 card 0 hurt 0;").mildest(), 0);

        doc.says("-2: there is no LAND.");
        doc.is("no land", new CardsAtYule().mildest(), -2);
    }

    private void alive() {
        doc.section("Promise 35: alive");
        doc.says("ALIVE (IV): the chance that a PAIR sends any in year n (1 .. 3), above (what 0), below (1).");
        CardsAtYule x = Due.land(YULE);
        doc.are("pair 1", new long[] {x.alive(1, 1, 0), x.alive(1, 1, 1), x.alive(1, 2, 0), x.alive(1, 2, 1), x.alive(1, 3, 0),
            x.alive(1, 3, 1)}, 1, 1, 15, 16, 15, 16);

        doc.says("-2: there are none such.");
        doc.all("no such", -2, x.alive(2, 1, 0), x.alive(-1, 1, 0), x.alive(0, 0, 0), x.alive(0, 4, 0), x.alive(0, 1, 2),
            x.alive(0, 1, -1));
    }

    private void both() {
        doc.section("Promise 36: both");
        doc.says("BOTH: the chance that both send in year n.");
        CardsAtYule x = Due.land(YULE);
        doc.are("pair 1", new long[] {x.both(1, 1, 0), x.both(1, 1, 1), x.both(1, 2, 0), x.both(1, 2, 1), x.both(1, 3, 0),
            x.both(1, 3, 1)}, 3, 4, 9, 16, 9, 16);

        doc.says("-2 likewise.");
        doc.all("no such", -2, x.both(2, 1, 0), x.both(-1, 1, 0), x.both(0, 0, 0), x.both(0, 4, 0), x.both(0, 1, 2),
            x.both(0, 1, -1));
    }

    private void mean() {
        doc.section("Promise 37: mean");
        doc.says("MEAN cards that are sent in n (1 .. 3) years.");
        CardsAtYule x = Due.land(YULE);
        doc.are("pair 1", new long[] {x.mean(1, 1, 0), x.mean(1, 1, 1), x.mean(1, 2, 0), x.mean(1, 2, 1), x.mean(1, 3, 0),
            x.mean(1, 3, 1)}, 7, 4, 13, 4, 19, 4);

        doc.says("-2 likewise.");
        doc.all("no such", -2, x.mean(2, 1, 0), x.mean(-1, 1, 0), x.mean(0, 0, 0), x.mean(0, 4, 0), x.mean(0, 1, 2),
            x.mean(0, 1, -1));
    }

    private void ending() {
        doc.section("Promise 38: ending");
        doc.says("END (V): the least COST of both by which a side, that may send or not as it will, brings a PAIR to its death "
            + "in n (1 .. 12) years.");
        CardsAtYule x = Due.land(YULE);
        // in a year: two cards, rather than one and a hurt; in more: one and a hurt, then nobody sends any more
        doc.are("side 0", new long[] {x.ending(0, 0, 1), x.ending(0, 0, 2), x.ending(0, 0, 12)}, 6, 8, 8);
        doc.are("side 1", new long[] {x.ending(0, 1, 1), x.ending(0, 1, 2)}, 6, 8);

        doc.says("NONE: it can't;");
        doc.are("who always sends", new long[] {pairOf("0", "15", 0).ending(0, 0, 1), pairOf("1", "0", 0).ending(0, 1, 12)},
            -1, -1);

        doc.says("-2: there are none such.");
        doc.all("no such", -2, x.ending(2, 0, 1), x.ending(-1, 0, 1), x.ending(0, 2, 1), x.ending(0, -1, 1), x.ending(0, 0, 0),
            x.ending(0, 0, 13));
    }

    private void step() {
        doc.section("Promise 39: step");
        doc.says("What it does in year i (from 0): 1 sends, 0 not, by the first row (not ahead of sending).");
        CardsAtYule x = Due.land(YULE);
        doc.are("one year", new long[] {x.step(0, 0, 1, 0), x.step(0, 1, 1, 0)}, 1, 1);
        doc.are("two years", new long[] {x.step(0, 0, 2, 0), x.step(0, 0, 2, 1)}, 0, 0);
        // who sends to one of either year, but not of both: a card in year 0 keeps it from a second one
        CardsAtYule y = pairOf("0", "6", 4);
        doc.are("6 rather than 10", new long[] {y.ending(0, 0, 2), y.step(0, 0, 2, 0), y.step(0, 0, 2, 1)}, 6, 1, 0);
        // a card and a hurt either way, of side 1 in year 1 or of side 0 in year 0
        CardsAtYule z = pairOf("0", "4", 4);
        doc.are("not ahead of sending", new long[] {z.ending(0, 0, 2), z.step(0, 0, 2, 0), z.step(0, 0, 2, 1)}, 5, 0, 0);

        doc.says("NONE: there is none such;");
        doc.is("no row", pairOf("0", "15", 0).step(0, 0, 3, 2), -1);

        doc.says("-2 likewise.");
        doc.all("no such", -2, x.step(2, 0, 1, 0), x.step(-1, 0, 1, 0), x.step(0, 2, 1, 0), x.step(0, -1, 1, 0),
            x.step(0, 0, 0, 0), x.step(0, 0, 13, 0), x.step(0, 0, 1, 1), x.step(0, 0, 1, -1));
    }

    private void keeping() {
        doc.section("Promise 40: keeping");
        doc.says("KEEP (V): the fewest cards that a side sends, as it will, in n (1 .. 12) years so that both send in the last "
            + "of them.");
        CardsAtYule x = Due.land(YULE);
        doc.are("side 0, whose other goes by return", new long[] {x.keeping(0, 0, 1), x.keeping(0, 0, 2), x.keeping(0, 0, 12)},
            1, 1, 1);
        doc.are("side 1", new long[] {x.keeping(0, 1, 1), x.keeping(0, 1, 2), x.keeping(0, 1, 12)}, 1, 2, 2);
        // to who sent in both years alone
        doc.are("rule 8", new long[] {pairOf("0", "8", 12).keeping(0, 0, 1), pairOf("0", "8", 12).keeping(0, 0, 3),
            pairOf("0", "8", 12).keeping(0, 0, 12)}, 1, 3, 3);

        doc.says("NONE: it can't;");
        doc.are("who never sends; who got none yet", new long[] {pairOf("0", "0", 15).keeping(0, 0, 12),
            pairOf("0", "8", 4).keeping(0, 0, 1)}, -1, -1);

        doc.says("-2: there are none such.");
        doc.all("no such", -2, x.keeping(2, 0, 1), x.keeping(-1, 0, 1), x.keeping(0, 2, 1), x.keeping(0, -1, 1),
            x.keeping(0, 0, 0), x.keeping(0, 0, 13));
    }

    private void pen() {
        doc.section("Promise 41: pen");
        doc.says("What it does in year i by the first row.");
        CardsAtYule x = Due.land(YULE);
        doc.are("side 0", new long[] {x.pen(0, 0, 2, 0), x.pen(0, 0, 2, 1)}, 0, 1);
        doc.are("side 1", new long[] {x.pen(0, 1, 3, 0), x.pen(0, 1, 3, 1), x.pen(0, 1, 3, 2)}, 0, 1, 1);
        // to who sent in one of two years: in year 1 as well as in year 0
        CardsAtYule y = pairOf("0", "14", 0);
        doc.are("the first of two rows", new long[] {y.pen(0, 0, 3, 0), y.pen(0, 0, 3, 1), y.pen(0, 0, 3, 2)}, 0, 1, 1);

        doc.says("NONE, -2 likewise.");
        doc.is("no row", pairOf("0", "0", 15).pen(0, 0, 3, 2), -1);
        doc.all("no such", -2, x.pen(2, 0, 1, 0), x.pen(-1, 0, 1, 0), x.pen(0, 2, 1, 0), x.pen(0, -1, 1, 0),
            x.pen(0, 0, 0, 0), x.pen(0, 0, 13, 0), x.pen(0, 0, 1, 1), x.pen(0, 0, 1, -1));
    }

    private void quit() {
        doc.section("Promise 42: quit");
        doc.says("QUIT: HURTS of the other side in all YEARS, if a side sent none from a YEAR on.");
        CardsAtYule x = Due.land(YULE);
        doc.are("side 0", new long[] {x.quit(0, 0, 0), x.quit(0, 0, 1), x.quit(0, 0, 2), x.quit(0, 0, 3), x.quit(0, 0, 4),
            x.quit(0, 0, 5)}, 1, 1, 1, 1, 2, 2);
        doc.are("side 1, in year 3 by return", new long[] {x.quit(0, 1, 0), x.quit(0, 1, 3), x.quit(0, 1, 5)}, 1, 1, 1);
        CardsAtYule y = pairOf("15", "15", 0);
        doc.are("who always sends", new long[] {y.quit(0, 0, 0), y.quit(0, 0, 1), y.quit(0, 1, 3)}, 4, 3, 1);
        CardsAtYule z = pairOf("15", "0 returns", 0);
        doc.are("by return", new long[] {z.quit(0, 1, 0), z.quit(0, 1, 2), z.quit(0, 0, 0)}, 4, 2, 0);

        doc.says("-2: there are none such.");
        doc.all("no such", -2, x.quit(2, 0, 0), x.quit(-1, 0, 0), x.quit(0, 2, 0), x.quit(0, -1, 0), x.quit(0, 0, 6),
            x.quit(0, 0, -1));
    }

    private void when() {
        doc.section("Promise 43: when");
        doc.says("The YEAR from which on that is least, the first of several.");
        CardsAtYule x = Due.land(YULE);
        doc.are("1 1 1 1 2 2; 1 always", new long[] {x.when(0, 0), x.when(0, 1)}, 0, 0);
        doc.are("4 3 2 1", new long[] {pairOf("15", "15", 0).when(0, 0), pairOf("15", "15", 0).when(0, 1)}, 3, 3);
        // side 1 sends in year 0, and then in the third year behind the last one that it got
        doc.is("4 1 0 0", pairOf("15", "1", 0).when(0, 0), 2);

        doc.says("-2 likewise.");
        doc.all("no such", -2, x.when(2, 0), x.when(-1, 0), x.when(0, 2), x.when(0, -1));
    }

    private void best() {
        doc.section("Promise 44: best");
        doc.says("BEST: the RULE (by return: and 16) by which a PERSON's COST would be least, the least of several.");
        // who never sends has no COST, and RULE 0 is the least of all
        CardsAtYule x = Due.land(YULE);
        doc.are("best", new long[] {x.best(0), x.best(1), x.best(2)}, 0, 0, 0);
        doc.is("without any cost", Due.land("land years 1 card 0 hurt 0;person rule 15 returns;").best(0), 0);

        doc.says("-2: there is none such.");
        doc.all("no such", -2, x.best(3), x.best(-1));
    }

    private void bestCost() {
        doc.section("Promise 45: bestCost");
        doc.says("That COST.");
        CardsAtYule x = Due.land(YULE);
        doc.are("best cost", new long[] {x.bestCost(0), x.bestCost(1), x.bestCost(2)}, 0, 0, 0);
        doc.are("it is as it was", new long[] {x.person(0, 0), x.cost(0), x.cost(1), x.cost(2)}, 10, 40, 25, 33);

        doc.says("-2 likewise.");
        doc.all("no such", -2, x.bestCost(3), x.bestCost(-1));
    }

    private void family() {
        doc.section("Promise 46: family");
        doc.says("FAMILY: the RULE by which COST of a set of PEOPLE (bits) together would be least, if all had it.");
        CardsAtYule x = Due.land(YULE);
        for (int set = 1; set < 8; set++) {
            doc.is("family of " + set, x.family(set), 0);
        }

        doc.says("-2: there is no such set (none, others than PEOPLE).");
        doc.all("no such", -2, x.family(0), x.family(8), x.family(9), x.family(-1), x.family(Integer.MIN_VALUE));
    }

    private void together() {
        doc.section("Promise 47: together");
        doc.says("How much it is then.");
        CardsAtYule x = Due.land(YULE);
        for (int set = 1; set < 8; set++) {
            doc.is("together of " + set, x.together(set), 0);
        }

        doc.says("-2 likewise.");
        doc.all("no such", -2, x.together(0), x.together(8), x.together(9), x.together(-1), x.together(Integer.MIN_VALUE));
    }
}
