/** The edges of promises 55 to 64: changes, counts, images, rows. */
public final class EdgeChangeTest {
    private static final Due due = new Due();

    /** Everyone sends; a year's cards come unless it is one of strike, by which rows are read out. */
    private static final String BOTH_SEND = "land years 40 card 0 hurt 0;person rule 15;person rule 15;pair 0 1 begun 0;";

    public static void main(String[] args) {
        trainTakes();
        trainTellsWhatItWas();
        beginTakes();
        loseTakes();
        loseTellsWhetherItWas();
        callsTakes();
        callsTellsWhetherItWas();
        countTakes();
        countOfAFullLand();
        keepAndOnTake();
        onToNothing();
        keepInPlaceOfAnother();
        keepNoLand();
        onBringsTheLandAlone();
        imagesOfAFullLand();
        changesAreAskedAnew();
        rowTakes();
        rowInPlaceOfAnother();
        rowBelowNothingStays();
        writeTakes();
        writeCutsToTheWidth();
        pasteTakesSlots();
        pasteOfNothing();
        pasteOfUnlikeWidths();
        pasteWithinTheRows();
        pasteBeyondTheRows();
        pasteAsTheyWere();
        due.end();
    }

    private static CardsAtYule full() {
        return Due.land(Edge.FULL_LAND);
    }

    private static void trainTakes() {
        CardsAtYule x = full();
        Edge.taken(due, "train of a person", 0, 9, -2, n -> x.train(n, 0, 0));
        Edge.taken(due, "what of train", 0, 2, -2, n -> x.train(9, n, 0));
        Edge.taken(due, "train to a rule", 0, 15, -2, n -> x.train(9, 0, n));
        Edge.taken(due, "train to return", 0, 1, -2, n -> x.train(9, 1, n));
        Edge.taken(due, "train to forget", 0, 50, -2, n -> x.train(9, 2, n));
        due.is("no land", new CardsAtYule().train(0, 0, 0), -2);
    }

    private static void trainTellsWhatItWas() {
        CardsAtYule x = full();
        int[] most = {15, 1, 50};
        int[] told = {15, 0, 0};
        for (int what = 0; what < 3; what++) {
            due.is("as told", x.train(9, what, 0), told[what]);
            due.is("refused", x.train(9, what, most[what] + 1), -2);
            due.is("refused", x.train(9, what, -1), -2);
            due.is("least", x.train(9, what, most[what]), 0);
            due.is("most", x.person(9, what), most[what]);
            due.is("the same again", x.train(9, what, most[what]), most[what]);
            due.is("refused", x.train(9, what, most[what] + 1), -2);
            due.is("most still", x.person(9, what), most[what]);
            due.is("another stays", x.person(8, what), told[what]);
        }
    }

    private static void beginTakes() {
        CardsAtYule x = full();
        Edge.taken(due, "begin of a pair", 0, 15, -2, n -> x.begin(n, 15));
        Edge.taken(due, "begin by a state", 0, 15, -2, n -> x.begin(15, n));
        CardsAtYule y = full();
        due.is("as told", y.begin(15, 0), 15);
        due.is("refused", y.begin(15, 16), -2);
        due.is("refused", y.begin(15, -1), -2);
        due.is("as begun", y.pair(15, 2), 0);
        due.is("another stays", y.pair(14, 2), 15);
        due.is("the same again", y.begin(15, 0), 0);
    }

    private static void loseTakes() {
        CardsAtYule x = full();
        Edge.taken(due, "lose of a pair", 0, 15, -2, n -> x.lose(n, 0, 0, 0));
        Edge.taken(due, "lose of a side", 0, 1, -2, n -> x.lose(15, n, 0, 0));
        Edge.taken(due, "lose in a year", 0, 39, -2, n -> x.lose(15, 1, n, 0));
        Edge.taken(due, "lose or not", 0, 1, -2, n -> x.lose(15, 1, 39, n));
    }

    private static void loseTellsWhetherItWas() {
        CardsAtYule x = full();
        for (int year : new int[] {0, 31, 32, 39}) {
            for (int side = 0; side < 2; side++) {
                due.is("not yet", x.lose(15, side, year, 1), 0);
                due.is("refused", x.lose(15, side, year, 2), -2);
                due.is("lost", x.got(15, 1 - side, year), 0);
                due.is("lost again", x.lose(15, side, year, 1), 1);
                due.is("one is lost", x.count(6), 1);
                due.is("the other side's comes", x.got(15, side, year), 1);
                due.is("another pair's comes", x.got(14, 1 - side, year), 1);
                due.is("no more", x.lose(15, side, year, 0), 1);
                due.is("it comes", x.got(15, 1 - side, year), 1);
                due.is("not again", x.lose(15, side, year, 0), 0);
                due.is("none is lost", x.count(6), 0);
            }
        }
    }

    private static void callsTakes() {
        CardsAtYule x = full();
        Edge.taken(due, "calls in a year", 0, 39, -2, n -> x.calls(n, 0));
        Edge.taken(due, "calls or not", 0, 1, -2, n -> x.calls(39, n));
    }

    private static void callsTellsWhetherItWas() {
        CardsAtYule x = full();
        for (int year : new int[] {0, 31, 32, 39}) {
            due.is("not yet", x.calls(year, 1), 0);
            due.is("refused", x.calls(year, 2), -2);
            due.is("none comes", x.cards(year, 1), 0);
            due.is("struck again", x.calls(year, 1), 1);
            due.is("one year of strike", x.count(5), 1);
            due.is("no more", x.calls(year, 0), 1);
            due.is("all come", x.cards(year, 1), 32);
            due.is("not again", x.calls(year, 0), 0);
            due.is("no year of strike", x.count(5), 0);
        }
    }

    private static void countTakes() {
        CardsAtYule x = new CardsAtYule();
        Edge.taken(due, "count of nothing", 0, 9, -1, n -> x.count(n));
        CardsAtYule y = full();
        Edge.taken(due, "count of a full land", 0, 9, -1, n -> y.count(n));
    }

    private static void countOfAFullLand() {
        CardsAtYule x = full();
        for (int year = 0; year < 40; year++) {
            x.calls(year, 1);
        }
        for (int year = 0; year < 5; year++) {
            for (int pair = 0; pair < 16; pair++) {
                x.lose(pair, 0, 35 + year, 1);
                x.lose(pair, 1, 35 + year, 1);
            }
        }
        Due.feed(x, " ".repeat(1600));
        for (int slot = 0; slot < 4; slot++) {
            x.row(slot, 0, 60);
        }
        int[] want = {10, 16, 40, 99, 99, 40, 160, 27, 1600, 4};
        for (int what = 0; what < 10; what++) {
            due.is("count " + what, x.count(what), want[what]);
        }
    }

    private static void keepAndOnTake() {
        CardsAtYule x = full();
        Edge.taken(due, "keep", 0, 2, -2, n -> x.keep(n));
        for (int k = 0; k < 3; k++) {
            due.is("keep " + k, x.keep(k), 0);
        }
        Edge.taken(due, "on", 0, 2, -2, n -> x.on(n));
        for (int k = 0; k < 3; k++) {
            due.is("on " + k, x.on(k), 0);
        }
    }

    private static void onToNothing() {
        CardsAtYule x = full();
        for (int k = 0; k < 3; k++) {
            due.is("on " + k, x.on(k), -6);
            due.is("the land stays", x.count(0), 10);
        }
        x.keep(1);
        due.is("the one below has nothing", x.on(0), -6);
        due.is("the one above has nothing", x.on(2), -6);
        due.is("it has", x.on(1), 0);
        due.is("no such one has nothing", x.on(3), -2);
    }

    private static void keepInPlaceOfAnother() {
        CardsAtYule x = full();
        x.keep(0);
        x.train(0, 0, 1);
        x.keep(1);
        x.train(0, 0, 2);
        x.keep(2);
        x.train(0, 0, 3);
        int[] kept = {15, 1, 2};
        for (int k = 2; k >= 0; k--) {
            due.is("on " + k, x.on(k), 0);
            due.is("as kept by " + k, x.person(0, 0), kept[k]);
        }
        x.train(0, 0, 7);
        x.keep(1);
        x.train(0, 0, 8);
        x.on(1);
        due.is("in place of another", x.person(0, 0), 7);
        x.on(1);
        x.train(0, 0, 9);
        due.is("what is changed since is not kept", x.on(1) + x.person(0, 0), 7);
        x.on(2);
        due.is("the others stay", x.person(0, 0), 2);
    }

    private static void keepNoLand() {
        CardsAtYule x = new CardsAtYule();
        due.is("keep", x.keep(2), 0);
        Due.tell(x, BOTH_SEND);
        due.is("on", x.on(2), 0);
        due.is("no land", x.dearest(), -2);
        due.is("no people", x.count(0), 0);
    }

    private static void onBringsTheLandAlone() {
        CardsAtYule x = full();
        x.keep(0);
        Due.tell(x, "land years 7 card 6 hurt 5;person rule 4;");
        x.row(1, 0, 3);
        x.feed(0, 0, 0, 0, 0);
        x.land();
        due.is("on", x.on(0), 0);
        int[] want = {10, 16, 40, 99, 99, 0, 0, 27, 20, 1};
        for (int what = 0; what < 10; what++) {
            due.is("count " + what, x.count(what), want[what]);
        }
        due.is("the fault stays", x.fault(0), 1);
        due.is("its place stays", x.fault(1), 0);
    }

    private static void imagesOfAFullLand() {
        CardsAtYule x = Due.land(Edge.FULL_LAND + "lost 39 8 1;lost 0 1 8;strike 39;strike 0;dies 9 39;moves 9 38;");
        x.train(9, 0, 14);
        x.train(9, 1, 1);
        x.train(9, 2, 50);
        x.begin(15, 7);
        x.keep(2);
        Due.tell(x, "land years 1 card 0 hurt 0;");
        x.on(2);
        int[] person = {14, 1, 50, 39, 38};
        for (int what = 0; what < 5; what++) {
            due.is("person 9 " + what, x.person(9, what), person[what]);
        }
        int[] pair = {1, 8, 7};
        for (int what = 0; what < 3; what++) {
            due.is("pair 15 " + what, x.pair(15, what), pair[what]);
        }
        due.is("lost of side 1", x.lose(15, 1, 39, 0), 1);
        due.is("lost of side 0", x.lose(15, 0, 0, 0), 1);
        due.is("no more are lost", x.count(6), 0);
        due.is("strike at last", x.calls(39, 0), 1);
        due.is("strike at first", x.calls(0, 0), 1);
    }

    /** What was worked out ahead of a change is worked out anew behind it. */
    private static void changesAreAskedAnew() {
        CardsAtYule x = Due.land(BOTH_SEND);
        x.keep(0);
        due.is("sends", x.sends(0, 0, 0), 1);
        x.train(0, 0, 0);
        due.is("trained", x.sends(0, 0, 0), 0);
        x.on(0);
        due.is("gone back", x.sends(0, 0, 0), 1);
        x.train(0, 0, 0);
        x.train(0, 1, 1);
        due.is("by return", x.sends(0, 0, 0), 2);
        x.on(0);
        x.train(0, 0, 2);
        due.is("got none", x.sends(0, 0, 0), 0);
        x.begin(0, 1);
        due.is("begun otherwise", x.sends(0, 0, 0), 1);
        x.lose(0, 1, 0, 1);
        due.is("lost", x.got(0, 0, 0), 0);
        x.lose(0, 1, 0, 0);
        due.is("not lost", x.got(0, 0, 0), 1);
        x.calls(0, 1);
        due.is("struck", x.got(0, 0, 0), 0);
        x.calls(0, 0);
        due.is("not struck", x.got(0, 0, 0), 1);
    }

    private static void rowTakes() {
        CardsAtYule x = new CardsAtYule();
        Edge.taken(due, "row of a slot", 0, 3, -2, n -> x.row(n, 0, 1));
        Edge.taken(due, "row of a width", 0, 3, -2, n -> x.row(0, n, 1));
        int[] taken = {0, 1, 59, 60};
        for (int n : taken) {
            due.is("row of " + n, x.row(3, 3, n), 0);
            due.is("its last", x.write(3, n - 1, 0), n == 0 ? -7 : 0);
            due.is("beyond its last", x.write(3, n, 0), -7);
        }
        due.is("row of 61", x.row(3, 3, 61), -2);
        due.is("row of the most", x.row(3, 3, Integer.MAX_VALUE), -2);
        due.is("row of -1", x.row(3, 3, -1), -3);
        due.is("row of the least", x.row(3, 3, Integer.MIN_VALUE), -3);
        due.is("60 still", x.write(3, 59, 0), 0);
        due.is("no such slot, below 0", x.row(-1, 0, -1), -2);
        due.is("no such width, below 0", x.row(0, 4, -1), -2);
    }

    /** Whether number i of slot 0 of a width is v, 0 .. 39: only in year v is a strike. */
    private static boolean holds(CardsAtYule x, int width, int i, int v) {
        x.row(3, width, 3);
        x.paste(0, i, 3, 0, 1);
        x.write(3, 1, 1);
        x.write(3, 2, 1);
        x.calls(v, 1);
        boolean odd = x.odd(3, 0) == 0;
        x.calls(v, 0);
        return odd && x.odd(3, 0) == -1;
    }

    private static void rowInPlaceOfAnother() {
        CardsAtYule x = Due.land(BOTH_SEND);
        for (int n = 60; n > 0; n -= 20) {
            x.row(0, 2, n);
            x.write(0, n - 1, 39);
            due.is("written", holds(x, 2, n - 1, 39) ? 1 : 0, 1);
            due.is("in its place", x.row(0, 1, n), 0);
            due.is("all 0", holds(x, 1, n - 1, 0) ? 1 : 0, 1);
            due.is("one row", x.count(9), 2);
        }
        x.row(0, 0, 5);
        x.write(0, 4, 7);
        x.row(0, 0, 3);
        x.row(0, 0, 5);
        due.is("what was beyond a shorter one is 0 too", holds(x, 0, 4, 0) ? 1 : 0, 1);
    }

    private static void rowBelowNothingStays() {
        CardsAtYule x = Due.land(BOTH_SEND);
        x.row(0, 1, 2);
        x.write(0, 0, 8);
        x.write(0, 1, 9);
        due.is("below 0", x.row(0, 2, -1), -3);
        due.is("above 60", x.row(0, 2, 61), -2);
        due.is("no such width", x.row(0, 4, 2), -2);
        due.is("first", holds(x, 1, 0, 8) ? 1 : 0, 1);
        due.is("second", holds(x, 1, 1, 9) ? 1 : 0, 1);
        due.is("no third", x.write(0, 2, 0), -7);
        due.is("a slot with nothing, below 0", x.row(1, 0, -1), -3);
        due.is("it has nothing still", x.write(1, 0, 0), -6);
    }

    private static void writeTakes() {
        CardsAtYule x = new CardsAtYule();
        for (int slot = 0; slot < 4; slot++) {
            due.is("nothing in " + slot, x.write(slot, 0, 0), -6);
            due.is("nothing in " + slot + ", below 0", x.write(slot, -1, 0), -6);
        }
        for (int slot = 0; slot < 4; slot++) {
            x.row(slot, slot, 60);
        }
        Edge.taken(due, "slot of write", 0, 3, -2, n -> x.write(n, 0, 0));
        Edge.taken(due, "number of write", 0, 59, -7, n -> x.write(3, n, 0));
        x.row(3, 0, 0);
        due.is("no number at all", x.write(3, 0, 0), -7);
        due.is("no such slot, no such number", x.write(4, 60, 0), -2);
    }

    private static void writeCutsToTheWidth() {
        CardsAtYule x = Due.land(BOTH_SEND);
        for (int width = 0; width < 4; width++) {
            x.row(0, width, 3);
            long above = width == 3 ? 0 : 1L << (8 << width);
            long[] sevens = {7, above + 7, 7 - above, (above << 7) + 7, width == 3 ? 7 : Long.MIN_VALUE + 7};
            for (long v : sevens) {
                due.is("write " + v, x.write(0, 1, v), 0);
                due.is(v + " is 7 in width " + width, holds(x, width, 1, 7) ? 1 : 0, 1);
                due.is("the one ahead stays", holds(x, width, 0, 0) ? 1 : 0, 1);
                due.is("the one behind stays", holds(x, width, 2, 0) ? 1 : 0, 1);
            }
        }
        CardsAtYule y = Due.land(BOTH_SEND);
        for (int width = 0; width < 4; width++) {
            long[] whole = {1L << (8 << width) - 1, width == 0 ? 128 : 1L << (4 << width), -1, 127, 64};
            for (long v : whole) {
                Due.fill(y, 0, width, v, 1, 1);
                due.is(v + " is no year in width " + width, y.odd(0, 0), -2);
            }
        }
    }

    private static CardsAtYule rows() {
        CardsAtYule x = Due.land(BOTH_SEND);
        Due.fill(x, 0, 1, 10, 11, 12, 13, 14);
        Due.fill(x, 1, 1, 20, 21, 22);
        return x;
    }

    private static void pasteTakesSlots() {
        CardsAtYule x = rows();
        x.row(2, 1, 3);
        x.row(3, 1, 3);
        Edge.taken(due, "paste from a slot", 0, 3, -2, n -> x.paste(n, 0, 0, 0, 1));
        Edge.taken(due, "paste to a slot", 0, 3, -2, n -> x.paste(0, 0, n, 0, 1));
    }

    private static void pasteOfNothing() {
        CardsAtYule x = rows();
        due.is("from nothing", x.paste(2, 0, 0, 0, 1), -6);
        due.is("to nothing", x.paste(0, 0, 2, 0, 1), -6);
        due.is("from nothing to nothing", x.paste(2, 0, 2, 0, 0), -6);
        due.is("from no slot to nothing", x.paste(4, 0, 2, 0, 1), -2);
        due.is("from nothing to no slot", x.paste(2, 0, 4, 0, 1), -2);
        due.is("from nothing, below 0", x.paste(2, -1, 0, -1, -1), -6);
        due.is("to nothing stays so", x.write(2, 0, 0), -6);
    }

    private static void pasteOfUnlikeWidths() {
        for (int width = 0; width < 4; width++) {
            for (int other = 0; other < 4; other++) {
                CardsAtYule x = new CardsAtYule();
                x.row(0, width, 2);
                x.row(1, other, 2);
                due.is("widths " + width + " " + other, x.paste(0, 0, 1, 0, 1), width == other ? 0 : -8);
                due.is("none of them", x.paste(0, 0, 1, 0, 0), width == other ? 0 : -8);
                due.is("beyond the row", x.paste(0, 0, 1, 0, 3), width == other ? -7 : -8);
            }
        }
    }

    private static void is(String name, CardsAtYule x, int... want) {
        for (int i = 0; i < want.length; i++) {
            due.is(name + ", number " + i, holds(x, 1, i, want[i]) ? 1 : 0, 1);
        }
    }

    private static void pasteWithinTheRows() {
        CardsAtYule x = rows();
        due.is("all of the other", x.paste(1, 0, 0, 0, 3), 0);
        is("all of the other", x, 20, 21, 22, 13, 14);
        x = rows();
        due.is("to the end", x.paste(1, 0, 0, 2, 3), 0);
        is("to the end", x, 10, 11, 20, 21, 22);
        x = rows();
        due.is("the last to the last", x.paste(1, 2, 0, 4, 1), 0);
        is("the last to the last", x, 10, 11, 12, 13, 22);
        x = rows();
        due.is("none at the ends", x.paste(1, 3, 0, 5, 0), 0);
        due.is("none at all", x.paste(1, 0, 0, 0, 0), 0);
        is("none", x, 10, 11, 12, 13, 14);
        x = new CardsAtYule();
        x.row(0, 3, 60);
        x.row(1, 3, 60);
        x.row(2, 3, 0);
        due.is("sixty", x.paste(0, 0, 1, 0, 60), 0);
        due.is("sixty-one", x.paste(0, 0, 1, 0, 61), -7);
        due.is("none of none", x.paste(2, 0, 2, 0, 0), 0);
        due.is("one of none", x.paste(2, 0, 0, 0, 1), -7);
        due.is("one to none", x.paste(0, 0, 2, 0, 1), -7);
    }

    private static void pasteBeyondTheRows() {
        int most = Integer.MAX_VALUE;
        int least = Integer.MIN_VALUE;
        // from place, to place, how many; the row it is from has three, the other five
        int[][] beyond = {{0, 0, 4}, {1, 0, 3}, {3, 0, 1}, {0, 3, 3}, {0, 5, 1}, {2, 4, 2}, {-1, 0, 1}, {0, -1, 1},
            {0, 0, -1}, {1, 1, -1}, {-1, 0, 0}, {0, -1, 0}, {4, 0, 0}, {0, 6, 0}, {most, 0, 1}, {0, most, 1}, {0, 0, most},
            {1, 0, most}, {most, most, most}, {least, 0, 1}, {0, least, 1}, {0, 0, least}, {3, 5, least}};
        for (int[] b : beyond) {
            CardsAtYule x = rows();
            due.is("beyond " + b[0] + " " + b[1] + " " + b[2], x.paste(1, b[0], 0, b[1], b[2]), -7);
            is("nothing happens by " + b[0] + " " + b[1] + " " + b[2], x, 10, 11, 12, 13, 14);
        }
        CardsAtYule x = rows();
        due.is("beyond its own", x.paste(0, 0, 0, 1, 5), -7);
        due.is("beyond its own", x.paste(0, 1, 0, 0, 5), -7);
        is("nothing happens", x, 10, 11, 12, 13, 14);
    }

    private static void pasteAsTheyWere() {
        CardsAtYule x = rows();
        due.is("its own onward", x.paste(0, 0, 0, 1, 4), 0);
        is("its own onward", x, 10, 10, 11, 12, 13);
        x = rows();
        due.is("its own back", x.paste(0, 1, 0, 0, 4), 0);
        is("its own back", x, 11, 12, 13, 14, 14);
        x = rows();
        due.is("its own to itself", x.paste(0, 0, 0, 0, 5), 0);
        is("its own to itself", x, 10, 11, 12, 13, 14);
        x = rows();
        due.is("its own apart", x.paste(0, 3, 0, 0, 2), 0);
        is("its own apart", x, 13, 14, 12, 13, 14);
        x = rows();
        due.is("from the longer", x.paste(0, 3, 1, 1, 2), 0);
        is("the row it is from stays", x, 10, 11, 12, 13, 14);
        x.paste(1, 0, 0, 0, 3);
        is("the other", x, 20, 13, 14, 13, 14);
    }
}
