/** The edges of promises 48 to 54 and of term VI: rows of what was seen, lives drawn. */
public final class EdgeSeenTest {
    private static final Due due = new Due();

    /** Nobody sends, so that a row is as all goes if it tells of years and of 0 and 0. */
    private static final String SILENT = Edge.FULL_LAND.replace("rule 15", "rule 0");

    public static void main(String[] args) {
        seenTakes();
        sidesOfWhich();
        rowsOfThreeEach();
        yearsInARow();
        zeroOrOneInARow();
        lastNumberOfAFullRow();
        slotsWithNothing();
        numbersAreAskedLast();
        allWaysAndNone();
        firstThatIsOdd();
        oddOfTheLastPair();
        whichByItself();
        nothingSeenOfAll();
        theSameYearTwice();
        lifeTakes();
        livesTakes();
        lastsTakes();
        lifeOfNobody();
        drawsBelowForgets();
        drawsAtTheHighestSeed();
        drawsCut();
        livesOfTheLastPair();
        livesGoByWhatComes();
        seedsOneByOne();
        lastYearOfALife();
        due.end();
    }

    private static CardsAtYule silent() {
        return Due.land(SILENT);
    }

    private static long seen(CardsAtYule x, int call, int slot, int pair) {
        switch (call) {
            case 0: return x.fits(slot, pair);
            case 1: return x.which(slot, pair, 0);
            case 2: return x.begun(slot, pair);
            default: return x.odd(slot, pair);
        }
    }

    private static void seenTakes() {
        CardsAtYule x = silent();
        for (int slot = 0; slot < 4; slot++) {
            Due.fill(x, slot, slot, 0, 0, 0);
        }
        for (int call = 0; call < 4; call++) {
            int c = call;
            Edge.taken(due, "slot of call " + c, 0, 3, -2, n -> seen(x, c, n, 15));
            Edge.taken(due, "pair of call " + c, 0, 15, -2, n -> seen(x, c, 3, n));
        }
    }

    private static void sidesOfWhich() {
        CardsAtYule x = silent();
        Due.fill(x, 0, 0, 0, 0, 0);
        Edge.taken(due, "side of which", 0, 1, -2, n -> x.which(0, 0, n));
    }

    private static void rowsOfThreeEach() {
        CardsAtYule x = silent();
        for (int n = 0; n <= 60; n++) {
            x.row(0, 0, n);
            for (int call = 0; call < 4; call++) {
                long answer = seen(x, call, 0, 0);
                due.is("call " + call + " of a row of " + n, answer == -2 ? 1 : 0, n % 3 == 0 ? 0 : 1);
            }
        }
    }

    /** Tries a number in place i of three, in rows of each width in which it can stand. */
    private static void place(int i, int low, int high) {
        for (int width = 0; width < 4; width++) {
            CardsAtYule x = silent();
            Due.fill(x, 0, width, 0, 0, 0);
            int[] numbers = {low, high, low - 1, high + 1, 100, -100};
            for (int number : numbers) {
                x.write(0, i, number);
                for (int call = 0; call < 4; call++) {
                    boolean isSo = number >= low && number <= high;
                    due.is("call " + call + " with " + number + " in place " + i + " of width " + width,
                        seen(x, call, 0, 0) == -2 ? 1 : 0, isSo ? 0 : 1);
                }
            }
        }
        CardsAtYule x = silent();
        Due.fill(x, 0, 3, 0, 0, 0);
        long[] far = {1L << 31, 1L << 32, 1L << 63, Long.MAX_VALUE, -(1L << 32), (1L << 32) + 1};
        for (long number : far) {
            x.write(0, i, number);
            for (int call = 0; call < 4; call++) {
                due.is("call " + call + " with " + number + " in place " + i, seen(x, call, 0, 0), -2);
            }
        }
    }

    private static void yearsInARow() {
        place(0, 0, 39);
        CardsAtYule x = Due.land("land years 1 card 0 hurt 0;person rule 0;person rule 0;pair 0 1 begun 0;");
        Due.fill(x, 0, 0, 0, 0, 0);
        due.is("the only year", x.odd(0, 0), -1);
        x.write(0, 0, 1);
        due.is("the year behind it", x.odd(0, 0), -2);
    }

    private static void zeroOrOneInARow() {
        place(1, 0, 1);
        place(2, 0, 1);
    }

    private static void lastNumberOfAFullRow() {
        for (int i = 57; i < 60; i++) {
            CardsAtYule x = silent();
            x.row(0, 0, 60);
            x.write(0, i, 40);
            for (int call = 0; call < 4; call++) {
                due.is("call " + call + " with 40 in place " + i, seen(x, call, 0, 0), -2);
            }
            x.write(0, i, 1);
            for (int call = 0; call < 4; call++) {
                due.is("call " + call + " with 1 in place " + i, seen(x, call, 0, 0) == -2 ? 1 : 0, 0);
            }
        }
    }

    private static void slotsWithNothing() {
        CardsAtYule x = silent();
        for (int call = 0; call < 4; call++) {
            due.is("call " + call + " of nothing", seen(x, call, 3, 15), -6);
            due.is("call " + call + " of nothing, no such pair", seen(x, call, 3, 16), -2);
            due.is("call " + call + " of no such slot", seen(x, call, 4, 15), -2);
        }
        due.is("which of nothing, no such side", x.which(3, 15, 2), -2);
        x.row(3, 0, 0);
        for (int call = 0; call < 4; call++) {
            due.is("call " + call + " of a row of none", seen(x, call, 3, 15) < -1 ? 1 : 0, 0);
        }
        CardsAtYule y = new CardsAtYule();
        y.row(0, 0, 3);
        for (int call = 0; call < 4; call++) {
            due.is("call " + call + " with no land", seen(y, call, 0, 0), -2);
            due.is("call " + call + " with no land, of nothing", seen(y, call, 1, 0), -2);
        }
    }

    private static void numbersAreAskedLast() {
        CardsAtYule x = silent();
        Due.fill(x, 0, 0, 99, 99, 99);
        for (int call = 0; call < 4; call++) {
            due.is("call " + call + " of nothing beside a bad row", seen(x, call, 1, 0), -6);
            due.is("call " + call + " of a bad row", seen(x, call, 0, 0), -2);
        }
    }

    private static void allWaysAndNone() {
        CardsAtYule x = Due.land(SILENT + "strike 0;");
        Due.fill(x, 0, 0, 0, 0, 0);
        due.is("all ways", x.fits(0, 0), 1024);
        due.is("all rules of side 0", x.which(0, 0, 0), 4294967295L);
        due.is("all rules of side 1", x.which(0, 0, 1), 4294967295L);
        due.is("all states", x.begun(0, 0), 65535);
        due.is("none is odd", x.odd(0, 0), -1);
        Due.fill(x, 0, 0, 0, 1, 0);
        due.is("no way", x.fits(0, 0), 0);
        due.is("no rule of side 0", x.which(0, 0, 0), 0);
        due.is("no rule of side 1", x.which(0, 0, 1), 0);
        due.is("no state", x.begun(0, 0), 0);
        due.is("the first is odd", x.odd(0, 0), 0);
        Due.fill(x, 0, 0, 0, 1, 1, 0, 0, 0);
        due.is("no way for both", x.fits(0, 0), 0);
        Due.fill(x, 0, 0, 0, 0, 0);
        due.is("all ways again", x.fits(0, 0), 1024);
    }

    private static void firstThatIsOdd() {
        for (int place = 0; place < 20; place++) {
            CardsAtYule x = silent();
            x.row(0, 0, 60);
            for (int i = 0; i < 20; i++) {
                x.write(0, 3 * i, 2 * i + 1);
            }
            due.is("none", x.odd(0, 0), -1);
            x.write(0, 3 * place + 1 + place % 2, 1);
            x.write(0, 59, 1);
            due.is("the first of two", x.odd(0, 0), place);
        }
    }

    private static void oddOfTheLastPair() {
        CardsAtYule x = Due.land(Edge.FULL_LAND + "lost 3 1 8;lost 4 8 1;");
        Due.fill(x, 0, 0, 3, 1, 0, 4, 0, 1, 5, 1, 1);
        due.is("as it goes", x.odd(0, 15), -1);
        due.is("not as the first pair goes", x.odd(0, 0), 0);
        due.is("not as the one ahead goes", x.odd(0, 14), 0);
        Due.fill(x, 0, 0, 3, 1, 0, 4, 1, 1);
        due.is("side 0 of the last got none", x.odd(0, 15), 1);
    }

    private static void whichByItself() {
        CardsAtYule x = Due.land(Edge.FULL_LAND.replace("begun 15", "begun 0"));
        Due.fill(x, 0, 0, 0, 1, 0);
        due.is("which", x.which(0, 15, 1), 0xAAAAAAAAL);
        due.is("the other side's", x.which(0, 15, 0), 0x5555L);
    }

    private static void nothingSeenOfAll() {
        CardsAtYule x = silent();
        x.row(0, 2, 0);
        due.is("all ways", x.fits(0, 0), 1024);
        due.is("all rules", x.which(0, 0, 1), 4294967295L);
        due.is("all states", x.begun(0, 0), 65535);
        due.is("none is odd", x.odd(0, 0), -1);
    }

    private static void theSameYearTwice() {
        CardsAtYule x = silent();
        Due.fill(x, 0, 0, 39, 0, 0, 39, 0, 0);
        due.is("alike", x.begun(0, 0), 65535);
        for (int year : new int[] {1, 31, 32, 38, 39}) {
            CardsAtYule y = Due.land(Edge.FULL_LAND + "strike " + (39 - year) + ";");
            Due.fill(y, 0, 0, year, 1, 1, year, 1, 1);
            due.is("alike, both got one in " + year, y.begun(0, 15), 65535);
            due.is("fits", y.fits(0, 15) > 0 ? 1 : 0, 1);
            Due.fill(y, 0, 0, year, 1, 1, year, 0, 1);
            due.is("unlike of side 0 in " + year, y.begun(0, 15), 0);
            Due.fill(y, 0, 0, year, 1, 1, year, 1, 0);
            due.is("unlike of side 1 in " + year, y.begun(0, 15), 0);
            Due.fill(y, 0, 0, year, 1, 0);
            due.is("not both in " + year, y.begun(0, 15), 0);
            Due.fill(y, 0, 0, 39 - year, 0, 0);
            due.is("none in the strike", y.begun(0, 15), 65535);
        }
        Due.fill(x, 0, 0, 39, 0, 0, 39, 0, 1);
        due.is("unlike", x.fits(0, 0), 0);
        due.is("unlike", x.begun(0, 0), 0);
        due.is("the second is odd", x.odd(0, 0), 1);
    }

    private static void lifeTakes() {
        CardsAtYule x = Due.land(Edge.FULL_LAND);
        Edge.taken(due, "seed of life", 0, 2_000_000_000, -2, n -> x.life(n, 0));
        Edge.taken(due, "what of life", 0, 2, -2, n -> x.life(2_000_000_000, n));
        due.is("no land", new CardsAtYule().life(0, 0), -2);
        due.is("all cards", x.life(0, 0), 32 * 40);
        due.is("no pair is silent", x.life(0, 1), 0);
        due.is("nobody forgets", x.life(0, 2), 0);
        due.is("all pairs are silent", silent().life(0, 1), 16);
    }

    private static void livesTakes() {
        CardsAtYule x = Due.land(Edge.FULL_LAND);
        Edge.taken(due, "seed of lives", 0, 2_000_000_000, -2, n -> x.lives(n, 15));
        Edge.taken(due, "pair of lives", 0, 15, -2, n -> x.lives(0, n));
        due.is("the last year", x.lives(0, 15), 39);
        due.is("in none", silent().lives(0, 15), -1);
    }

    private static void lastsTakes() {
        CardsAtYule x = Due.land(Edge.FULL_LAND);
        Edge.taken(due, "seed of lasts", 0, 2_000_000_000, -2, n -> x.lasts(n, 1, 15));
        Edge.taken(due, "seed of twenty", 0, 2_000_000_000, -2, n -> x.lasts(n, 20, 15));
        Edge.taken(due, "n of lasts", 1, 20, -2, n -> x.lasts(0, n, 15));
        Edge.taken(due, "pair of lasts", 0, 15, -2, n -> x.lasts(0, 1, n));
        due.is("one of one", x.lasts(0, 1, 15), 1);
        due.is("twenty of twenty", x.lasts(0, 20, 15), 20);
        due.is("none of twenty", silent().lasts(0, 20, 15), 0);
    }

    private static void lifeOfNobody() {
        CardsAtYule x = Due.land("land years 1 card 0 hurt 0;");
        for (int what = 0; what < 3; what++) {
            due.is("life of nobody, " + what, x.life(0, what), 0);
        }
        due.is("lives of nobody", x.lives(0, 0), -2);
        due.is("lasts of nobody", x.lasts(0, 1, 0), -2);
    }

    /** The first draws from 0: 0, 68, 88, 17, 98, 27. */
    private static void drawsBelowForgets() {
        String text = "land years 4 card 0 hurt 0;person rule 15 forgets N;person rule 0;pair 0 1 begun 0;";
        int[][] forgot = {{0, 0}, {1, 1}, {17, 1}, {18, 2}, {50, 2}};
        for (int[] f : forgot) {
            CardsAtYule x = Due.land(text.replace("N", "" + f[0]));
            due.is("how often from 0 with " + f[0], x.life(0, 2), f[1]);
            due.is("cards from 0 with " + f[0], x.life(0, 0), 4 - f[1]);
        }
        CardsAtYule x = Due.land(text.replace("N", "17"));
        due.is("the draw is not below", x.lives(0, 0), 3);
        due.is("it lasts", x.lasts(0, 1, 0), 1);
        CardsAtYule y = Due.land(text.replace("N", "18"));
        due.is("the draw is below", y.lives(0, 0), 2);
        due.is("it does not last", y.lasts(0, 1, 0), 0);
        due.is("the pair is silent at last", y.life(0, 1), 1);
    }

    /** From 2,000,000,000 x becomes 216,544,313, then 467,520,126: the draws are 4 and 33. */
    private static void drawsAtTheHighestSeed() {
        String text = "land years 2 card 0 hurt 0;person rule 15 forgets N;person rule 0;pair 0 1 begun 0;";
        int[][] forgot = {{4, 0}, {5, 1}, {33, 1}, {34, 2}};
        for (int[] f : forgot) {
            CardsAtYule x = Due.land(text.replace("N", "" + f[0]));
            due.is("how often from the highest seed with " + f[0], x.life(2_000_000_000, 2), f[1]);
        }
    }

    /** From 21 x becomes 1,698,996,010, 25,924.6.. times 65,536: the draw is 24; from 3 1,163,074,432: 47. */
    private static void drawsCut() {
        String text = "land years 1 card 0 hurt 0;person rule 15 forgets N;person rule 0;pair 0 1 begun 0;";
        int[][] draws = {{21, 24}, {3, 47}};
        for (int[] d : draws) {
            due.is("not below, from " + d[0], Due.land(text.replace("N", "" + d[1])).life(d[0], 2), 0);
            due.is("below, from " + d[0], Due.land(text.replace("N", "" + (d[1] + 1))).life(d[0], 2), 1);
        }
    }

    /** Of three pairs the last has one who forgets, who dies, or whose card is lost; the draws from 0: 0, 68, 88, 17. */
    private static void livesOfTheLastPair() {
        String text = "land years 2 card 0 hurt 0;" + "person rule 0;".repeat(3) + "person rule 15 forgets 18;"
            + "pair 0 1 begun 0;pair 0 2 begun 0;pair 1 3 begun 0;";
        CardsAtYule x = Due.land(text);
        due.is("forgets by 0, sends by 68", x.life(0, 2), 1);
        due.is("one card", x.life(0, 0), 1);
        due.is("the last pair's", x.lives(0, 2), 1);
        due.is("not the first's", x.lives(0, 0), -1);
        due.is("not the second's", x.lives(0, 1), -1);
        due.is("silent at last", x.life(0, 1), 2);
        CardsAtYule y = Due.land(text + "dies 3 1;");
        due.is("he died", y.lives(0, 2), -1);
        due.is("from another seed he sent", y.lives(7, 2), 0);
        due.is("to who died he sends", Due.land(text + "dies 1 0;").lives(0, 2), 1);
    }

    /** Who sends to who sent in the last year, and nobody forgets: what does not come ends it. */
    private static void livesGoByWhatComes() {
        String text = "land years 9 card 0 hurt 0;" + "person rule 10;".repeat(4)
            + "pair 0 1 begun 5;pair 0 2 begun 5;pair 1 3 begun 5;";
        due.is("nothing is lost", Due.land(text).lives(0, 2), 8);
        due.is("a strike", Due.land(text + "strike 3;").lives(0, 2), 3);
        due.is("a death", Due.land(text + "dies 3 3;").lives(0, 2), 3);
        due.is("the other's death", Due.land(text + "dies 1 3;").lives(0, 2), 3);
        CardsAtYule x = Due.land(text + "lost 3 1 3;lost 4 1 3;");
        due.is("two cards of side 0", x.lives(0, 2), 4);
        due.is("two cards of side 1", Due.land(text + "lost 3 3 1;lost 4 3 1;").lives(0, 2), 4);
        due.is("a card of each side goes round", Due.land(text + "lost 3 1 3;lost 4 3 1;").lives(0, 2), 8);
        due.is("the others go on", x.lives(0, 0), 8);
        due.is("cards of the first, too", x.life(0, 0), 9 * 2 * 2 + 4 * 2 + 1);
        due.is("a move", Due.land(text + "moves 3 3;lost 4 1 3;").lives(0, 2), 4);
    }

    private static void seedsOneByOne() {
        CardsAtYule x = Due.land("land years 1 card 0 hurt 0;person rule 15 forgets 50;person rule 0;pair 0 1 begun 0;");
        for (int seed : new int[] {0, 1_000_000, 1_999_999_981}) {
            int lasting = 0;
            for (int n = 1; n <= 20; n++) {
                lasting += x.lives(seed + n - 1, 0) == 0 ? 1 : 0;
                due.is("of " + n + " from " + seed, x.lasts(seed, n, 0), lasting);
            }
        }
    }

    private static void lastYearOfALife() {
        String text = "land years 4 card 0 hurt 0;person rule 15;person rule 15 returns;pair 0 1 begun 0;";
        due.is("dead from the first year on", Due.land(text + "dies 0 0;dies 1 0;").lives(0, 0), -1);
        due.is("in the first alone", Due.land(text + "dies 0 1;dies 1 1;").lives(0, 0), 0);
        due.is("but for the last", Due.land(text + "dies 0 3;dies 1 3;").lives(0, 0), 2);
        due.is("a strike is no silence", Due.land(text + "strike 3;").lives(0, 0), 3);
        due.is("cards of the living", Due.land(text + "dies 0 1;").life(0, 0), 5);
        due.is("silent at last", Due.land(text + "dies 0 3;dies 1 3;").life(0, 1), 1);
    }
}
