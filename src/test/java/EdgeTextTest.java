/** The edges of promises 1 to 5 and of term I: the tape, the land's numbers, the faults and their places. */
public final class EdgeTextTest {
    private static final Due due = new Due();

    private static final String LAND = "land years 5 card 3 hurt 2;";
    private static final String TWO = LAND + "person rule 0;person rule 1;";
    private static final String THREE = TWO + "person rule 2;";
    private static final String PAIR = TWO + "pair 0 1 begun 0;";
    private static final String TEN = LAND + "person rule 0;".repeat(10);

    public static void main(String[] args) {
        newObjectHasNoLand();
        newObjectHasNothingElse();
        newObjectKnowsRulesAlone();
        feedTakesTwentyBytesHighestFirst();
        feedTakesEveryByte();
        feedFillsTheTape();
        feedBeyondTheTapeBringsNone();
        endCutsTheTape();
        endBeyondTheTapeDoesNothing();
        landOfAnEmptyTape();
        landOfAFullTape();
        landEmptiesTheTape();
        landTakesAnothersPlace();
        landForgetsMarksDeathsAndMoves();
        landIsAskedAnew();
        landWithAFaultLeavesAll();
        faultOfTheLatestLand();
        faultOfOtherWhats();
        numbersOfTheLand();
        numbersOfPeople();
        numbersOfPairs();
        yearsOfLines();
        peopleOfLines();
        numbersOfManyDigits();
        numbersBelowNothing();
        peopleToTheFull();
        pairsToTheFull();
        pairsOfUnlikePeopleToldAhead();
        lostBetweenPairsAlone();
        marksOnceInAnyOrder();
        landIsTheFirstLineAndNoOther();
        laterLinesStrikeEarlierOnes();
        bytesBehindASign();
        bytesBehindAWord();
        bytesBehindANumber();
        blanksAsideAndLongestTokens();
        everyLetterOfEveryWord();
        endOfTheTextAnywhere();
        numbersAreCutAsWell();
        firstFaultByItsPlace();
        due.end();
    }

    private static void good(String text, int lines) {
        CardsAtYule x = new CardsAtYule();
        due.is(text, Due.tell(x, text), lines);
        due.is("fault of " + text, x.fault(0), 0);
        due.is("place of " + text, x.fault(1), -1);
        due.is("lines of " + text, x.count(7), lines);
        due.is("the tape behind " + text, x.count(8), 0);
    }

    private static void bad(String text, int fault, int place) {
        CardsAtYule x = new CardsAtYule();
        due.is(text, Due.tell(x, text), -4);
        due.is("fault of " + text, x.fault(0), fault);
        due.is("place of " + text, x.fault(1), place);
        due.is("no land by " + text, x.count(7), 0);
        due.is("the tape behind " + text, x.count(8), text.length());
    }

    private static void newObjectHasNoLand() {
        CardsAtYule x = new CardsAtYule();
        long[] answers = {x.person(0, 0), x.pair(0, 0), x.of(0, 1), x.sends(0, 0, 0), x.got(0, 0, 0), x.state(0, 0),
            x.cards(0, 0), x.list(0, 0), x.mantel(0, 0), x.whose(0, 0), x.hurts(0, 0), x.cost(0), x.dearest(), x.last(0),
            x.over(), x.poorest(), x.streak(0, 0), x.goes(0, 0), x.lost(0, 0, 0), x.back(0, 0), x.strike(0), x.saves(0),
            x.mildest(), x.alive(0, 1, 0), x.both(0, 1, 0), x.mean(0, 1, 0), x.ending(0, 0, 1), x.step(0, 0, 1, 0),
            x.keeping(0, 0, 1), x.pen(0, 0, 1, 0), x.quit(0, 0, 0), x.when(0, 0), x.best(0), x.bestCost(0), x.family(1),
            x.together(1), x.fits(0, 0), x.which(0, 0, 0), x.begun(0, 0), x.odd(0, 0), x.life(0, 0), x.lives(0, 0),
            x.lasts(0, 1, 0), x.train(0, 0, 0), x.begin(0, 0), x.lose(0, 0, 0, 0), x.calls(0, 0)};
        for (int i = 0; i < answers.length; i++) {
            due.is("call " + i + " of a new one", answers[i], -2);
        }
        due.is("odds of a new one", x.odds(0), -100);
    }

    private static void newObjectHasNothingElse() {
        CardsAtYule x = new CardsAtYule();
        for (int what = 0; what < 10; what++) {
            due.is("count " + what + " of a new one", x.count(what), 0);
        }
        for (int i = 0; i < 3; i++) {
            due.is("image " + i + " of a new one", x.on(i), -6);
        }
        for (int slot = 0; slot < 4; slot++) {
            due.is("slot " + slot + " of a new one", x.write(slot, 0, 0), -6);
        }
        due.is("fault ahead of any land", x.fault(0), 0);
        due.is("place ahead of any land", x.fault(1), -1);
    }

    private static void newObjectKnowsRulesAlone() {
        CardsAtYule x = new CardsAtYule();
        due.is("does", x.does(1, 0, 0), 1);
        due.is("fate", x.fate(15, 15, 15, 3), 1);
        due.is("basin", x.basin(15, 15, 1), 16);
        due.is("longest", x.longest(0, 0), 1);
        due.is("faithful", x.faithful(15), 32);
    }

    private static void feedTakesTwentyBytesHighestFirst() {
        CardsAtYule x = new CardsAtYule();
        // "land years 1 card 2 hurt 3;" by hand
        due.is("feed", x.feed(0x6c616e64, 0x20796561, 0x72732031, 0x20636172, 0x64203220), 20);
        due.is("feed", x.feed(0x68757274, 0x20333b20, 0x20202020, 0x20202020, 0x20202020), 40);
        due.is("land", x.land(), 1);
        due.is("years", x.count(2), 1);
        due.is("card", x.count(3), 2);
        due.is("hurt", x.count(4), 3);
    }

    private static void feedTakesEveryByte() {
        CardsAtYule x = new CardsAtYule();
        due.is("feed of the lowest and highest", x.feed(Integer.MIN_VALUE, Integer.MAX_VALUE, -1, 0, 1), 20);
        due.is("land", x.land(), -4);
        due.is("place", x.fault(1), 0);
        x.end(0);
        // blanks, then 0xff as the last byte of the last number
        x.feed(0x20202020, 0x20202020, 0x20202020, 0x20202020, 0x202020ff);
        due.is("land", x.land(), -4);
        due.is("fault", x.fault(0), 1);
        due.is("place", x.fault(1), 19);
    }

    private static void feedFillsTheTape() {
        CardsAtYule x = new CardsAtYule();
        for (int i = 1; i <= 80; i++) {
            due.is("feed " + i, x.feed(0, 0, 0, 0, 0), 20 * i);
            due.is("bytes " + i, x.count(8), 20 * i);
        }
        due.is("feed 81", x.feed(0, 0, 0, 0, 0), -1);
        due.is("bytes at last", x.count(8), 1600);
    }

    private static void feedBeyondTheTapeBringsNone() {
        for (int length = 1579; length <= 1600; length++) {
            CardsAtYule x = new CardsAtYule();
            Due.feed(x, LAND + " ".repeat(1600 - LAND.length()));
            x.end(length);
            due.is("feed behind " + length, x.feed(0, 0, 0, 0, 0), length <= 1580 ? length + 20 : -1);
            due.is("bytes behind " + length, x.count(8), length <= 1580 ? length + 20 : length);
            due.is("land behind " + length, x.land(), length <= 1580 ? -4 : 1);
        }
    }

    private static void endCutsTheTape() {
        CardsAtYule x = new CardsAtYule();
        Due.feed(x, LAND + "person rule 0;;;");
        due.is("all of it", x.end(43), 43);
        due.is("but the last two", x.end(41), 41);
        due.is("land", x.land(), 2);
        Due.feed(x, LAND);
        due.is("none of it", x.end(0), 0);
        due.is("nothing is left", x.count(8), 0);
        Due.feed(x, "land years 7 card 3 hurt 2;");
        due.is("what comes then comes first", x.land(), 1);
        due.is("years", x.count(2), 7);
    }

    private static void endBeyondTheTapeDoesNothing() {
        CardsAtYule x = new CardsAtYule();
        due.is("end(0) of nothing", x.end(0), 0);
        due.is("end(1) of nothing", x.end(1), -1);
        Due.feed(x, LAND);
        for (int n : new int[] {-1, 28, 40, 1600, 1601, Integer.MIN_VALUE, Integer.MAX_VALUE}) {
            due.is("end " + n, x.end(n), -1);
            due.is("bytes behind end " + n, x.count(8), 27);
        }
        due.is("end of all", x.end(27), 27);
        due.is("land", x.land(), 1);
        x = new CardsAtYule();
        Due.feed(x, " ".repeat(1600));
        due.is("end 1601 of a full one", x.end(1601), -1);
        due.is("end 1600 of a full one", x.end(1600), 1600);
    }

    private static void landOfAnEmptyTape() {
        CardsAtYule x = new CardsAtYule();
        due.is("land of an empty tape", x.land(), 0);
        due.is("none is there", x.over(), -2);
        Due.tell(x, PAIR);
        due.is("one is there", x.over(), 0);
        due.is("land of an empty tape in its place", x.land(), 0);
        due.is("none is there then", x.over(), -2);
        for (int what = 0; what < 9; what++) {
            due.is("count " + what + " then", x.count(what), 0);
        }
        due.is("no person", x.person(0, 0), -2);
        due.is("no pair", x.pair(0, 0), -2);
        due.is("no year", x.cards(0, 0), -2);
        good("\n", 0);
        good(" ".repeat(1600), 0);
    }

    private static void landOfAFullTape() {
        String strikes = "strike 0;".repeat((1600 - Edge.FULL_LAND.length()) / 9);
        String full = Edge.FULL_LAND + strikes;
        good(full + " ".repeat(1600 - full.length()), 27 + strikes.length() / 9);
        good(LAND + " ".repeat(1600 - 27 - 9) + "strike 1;", 2);
        bad(LAND + " ".repeat(1600 - 27 - 8) + "strike 1", 1, 1600);
        bad(LAND + " ".repeat(1600 - 27 - 1) + "x", 1, 1599);
    }

    private static void landEmptiesTheTape() {
        CardsAtYule x = new CardsAtYule();
        due.is("land", Due.tell(x, LAND), 1);
        due.is("empty", x.count(8), 0);
        due.is("end(1)", x.end(1), -1);
        due.is("feed", x.feed(0, 0, 0, 0, 0), 20);
    }

    private static void landTakesAnothersPlace() {
        CardsAtYule x = Due.land(Edge.FULL_LAND + "strike 39;dies 0 0;moves 0 0;lost 39 0 1;");
        due.is("another", Due.tell(x, "land years 1 card 0 hurt 0;person rule 3;person rule 4;pair 1 0 begun 2;"), 4);
        int[] want = {2, 1, 1, 0, 0, 0, 0, 4};
        for (int what = 0; what < 8; what++) {
            due.is("count " + what, x.count(what), want[what]);
        }
        int[] person = {3, 0, 0, -1, -1};
        for (int what = 0; what < 5; what++) {
            due.is("person " + what, x.person(0, what), person[what]);
        }
        due.is("no third", x.person(2, 0), -2);
        due.is("no second pair", x.pair(1, 0), -2);
        due.is("no second year", x.cards(1, 0), -2);
        due.is("not lost", x.lose(0, 1, 0, 0), 0);
    }

    private static void landForgetsMarksDeathsAndMoves() {
        CardsAtYule x = Due.land(LAND + "person rule 1 returns forgets 50;person rule 2 forgets 7 returns;"
            + "pair 0 1 begun 9;dies 0 1;moves 1 2;lost 3 0 1;lost 4 1 0;strike 0;");
        due.is("another", Due.tell(x, PAIR), 4);
        for (int person = 0; person < 2; person++) {
            int[] want = {person, 0, 0, -1, -1};
            for (int what = 0; what < 5; what++) {
                due.is("person " + person + " " + what, x.person(person, what), want[what]);
            }
        }
        due.is("none told to be lost", x.count(6), 0);
        due.is("no strike", x.count(5), 0);
    }

    /** What was worked out for one land is not told of the next one. */
    private static void landIsAskedAnew() {
        String two = "land years 1 card 0 hurt 0;person rule 15;person rule 15;pair 0 1 begun 0;";
        CardsAtYule x = Due.land(two);
        due.is("sends", x.sends(0, 0, 0), 1);
        due.is("another land", Due.tell(x, two.replace("rule 15", "rule 0")), 4);
        due.is("sends nothing", x.sends(0, 0, 0), 0);
        due.is("cards", x.cards(0, 0), 0);
    }

    private static void landWithAFaultLeavesAll() {
        CardsAtYule x = Due.land(PAIR + "strike 4;lost 4 1 0;dies 0 3;moves 1 2;");
        due.is("a fault at the end", Due.tell(x, "land years 9 card 8 hurt 7;person rule 9;strike 8;foo"), -4);
        int[] want = {2, 1, 5, 3, 2, 1, 1, 8, 53};
        for (int what = 0; what < 9; what++) {
            due.is("count " + what, x.count(what), want[what]);
        }
        due.is("rule", x.person(0, 0), 0);
        due.is("death", x.person(0, 3), 3);
        due.is("move", x.person(1, 4), 2);
        due.is("land again", x.land(), -4);
        due.is("place", x.fault(1), 50);
        due.is("cut", x.end(50), 50);
        due.is("land without the fault", x.land(), 3);
    }

    private static void faultOfTheLatestLand() {
        CardsAtYule x = new CardsAtYule();
        Due.tell(x, "land years 0");
        due.is("fault", x.fault(0), 2);
        due.is("place", x.fault(1), 11);
        Due.tell(x, "lamb");
        due.is("of the latest", x.fault(0), 1);
        due.is("place of the latest", x.fault(1), 0);
        Due.tell(x, LAND);
        due.is("without", x.fault(0), 0);
        due.is("place without", x.fault(1), -1);
        x.feed(0, 0, 0, 0, 0);
        due.is("a feed is no land", x.fault(0), 0);
        x.land();
        x.end(0);
        due.is("an end is no land", x.fault(0), 1);
        due.is("an end is no land", x.fault(1), 0);
    }

    private static void faultOfOtherWhats() {
        CardsAtYule x = new CardsAtYule();
        Edge.taken(due, "fault ahead of any", 0, 0, -1, x::fault);
        Due.tell(x, LAND);
        Edge.taken(due, "fault without", 0, 0, -1, x::fault);
        Due.tell(x, "  lamb");
        Edge.taken(due, "fault with one", 0, 1, -1, x::fault);
    }

    /** The text is good with the lowest and the highest number, and faulty with the next ones. */
    private static void number(String before, String behind, int low, int high, int lines) {
        good(before + low + behind, lines);
        good(before + high + behind, lines);
        good(before + "000" + high + behind, lines);
        bad(before + (high + 1) + behind, 2, before.length());
        if (low > 0 && low < high) {
            bad(before + (low - 1) + behind, 2, before.length());
        }
    }

    private static void numbersOfTheLand() {
        number("land years ", " card 0 hurt 0;", 1, 40, 1);
        number("land years 1 card ", " hurt 0;", 0, 99, 1);
        number("land years 1 card 0 hurt ", ";", 0, 99, 1);
        CardsAtYule x = Due.land("land years 40 card 98 hurt 99;");
        due.is("years", x.count(2), 40);
        due.is("card", x.count(3), 98);
        due.is("hurt", x.count(4), 99);
    }

    private static void numbersOfPeople() {
        number(LAND + "person rule ", ";", 0, 15, 2);
        number(LAND + "person rule ", " returns;", 0, 15, 2);
        number(LAND + "person rule 0 forgets ", ";", 0, 50, 2);
        number(LAND + "person rule 0 returns forgets ", ";", 0, 50, 2);
        number(LAND + "person rule 0 forgets ", " returns;", 0, 50, 2);
    }

    private static void numbersOfPairs() {
        number(TWO + "pair 0 1 begun ", ";", 0, 15, 4);
        number(TWO + "pair 1 0 begun ", ";", 0, 15, 4);
        number(THREE + "pair ", " 1 begun 0;", 2, 2, 5);
        number(THREE + "pair 0 ", " begun 0;", 1, 2, 5);
        number(TEN + "pair ", " 8 begun 0;", 9, 9, 12);
        number(TEN + "pair 0 ", " begun 0;", 1, 9, 12);
    }

    private static void yearsOfLines() {
        for (int years : new int[] {1, 5, 40}) {
            String pair = PAIR.replace("years 5", "years " + years);
            number(pair + "lost ", " 0 1;", 0, years - 1, 5);
            number(pair + "lost ", " 1 0;", 0, years - 1, 5);
            number(pair + "strike ", ";", 0, years - 1, 5);
            number(pair + "dies 1 ", ";", 0, years - 1, 5);
            number(pair + "moves 1 ", ";", 0, years - 1, 5);
        }
    }

    private static void peopleOfLines() {
        number(TWO + "dies ", " 0;", 0, 1, 4);
        number(TWO + "moves ", " 0;", 0, 1, 4);
        number(TEN + "dies ", " 0;", 0, 9, 12);
        number(TEN + "moves ", " 0;", 0, 9, 12);
        bad(LAND + "dies 0 0;", 2, 32);
        bad(LAND + "moves 0 0;", 2, 33);
        bad(LAND + "pair 0 1 begun 0;", 2, 32);
        bad(LAND + "lost 0 0 1;", 2, 34);
        bad(LAND + "dies 0 0;person rule 0;", 2, 32);
        bad(LAND + "moves 0 0;person rule 0;", 2, 33);
    }

    private static void numbersOfManyDigits() {
        String[] high = {"1000", "4294967297", "18446744073709551617", "1" + "0".repeat(400), "9".repeat(1500)};
        for (String digits : high) {
            bad("land years " + digits + " card 0 hurt 0;", 2, 11);
        }
        good("land years " + "0".repeat(1500) + "1 card 0 hurt 0;", 1);
        bad("land years " + "0".repeat(1500) + " card 0 hurt 0;", 2, 11);
        CardsAtYule x = Due.land("land years 0000000000000000000000017 card 00 hurt 009;");
        due.is("years", x.count(2), 17);
        due.is("hurt", x.count(4), 9);
    }

    private static void numbersBelowNothing() {
        bad("land years -1 card 0 hurt 0;", 1, 11);
        bad("land years 1 card -1 hurt 0;", 1, 18);
        bad("land years 1 card 0 hurt -1;", 1, 25);
        bad(LAND + "person rule -1;", 1, 39);
        bad(LAND + "person rule 0 forgets -1;", 1, 49);
        bad(TWO + "pair 0 1 begun -1;", 1, 70);
        bad(TWO + "pair -1 1 begun 0;", 1, 60);
        bad(TWO + "strike -1;", 1, 62);
    }

    private static void peopleToTheFull() {
        good(TEN, 11);
        bad(TEN + "person rule 0;", 3, TEN.length());
        bad(TEN + "strike 0; person rule 16;", 3, TEN.length() + 10);
        bad(TEN + "person", 3, TEN.length());
        bad(TEN + "person foo", 3, TEN.length());
        CardsAtYule x = Due.land(TEN);
        due.is("people", x.count(0), 10);
        due.is("the tenth", x.person(9, 0), 0);
    }

    private static void pairsToTheFull() {
        String full = TEN + Edge.pairsOfTen(16);
        good(full, 27);
        bad(full + "pair 8 9 begun 0;", 3, full.length());
        bad(full + "pair 0 1 begun 0;", 3, full.length());
        bad(full + "strike 0;\npair 99", 3, full.length() + 10);
        bad(full + "pair", 3, full.length());
        bad(full + "person", 3, full.length());
        good(full + "lost 0 1 8;", 28);
        bad(full + "lost 0 8 9;", 2, full.length() + 9);
        CardsAtYule x = Due.land(full);
        due.is("pairs", x.count(1), 16);
        due.is("the sixteenth, side 0", x.pair(15, 0), 1);
        due.is("the sixteenth, side 1", x.pair(15, 1), 8);
    }

    private static void pairsOfUnlikePeopleToldAhead() {
        bad(TWO + "pair 0 0 begun 0;", 2, 62);
        bad(TWO + "pair 1 1 begun 0;", 2, 62);
        bad(LAND + "person rule 0;pair 0 1 begun 0;person rule 0;", 2, 48);
        bad(LAND + "person rule 0;pair 1 0 begun 0;person rule 0;", 2, 46);
        bad(PAIR + "pair 0 1 begun 0;", 2, 79);
        bad(PAIR + "pair 1 0 begun 0;", 2, 79);
        bad(PAIR + "pair 1 0;", 2, 79);
        good(THREE + "pair 0 1 begun 0;pair 2 0 begun 0;pair 2 1 begun 0;", 7);
        CardsAtYule x = Due.land(THREE + "pair 2 0 begun 4;pair 0 1 begun 9;");
        due.is("the first told is side 0", x.pair(0, 0), 2);
        due.is("the other is side 1", x.pair(0, 1), 0);
        due.is("begun", x.pair(0, 2), 4);
        due.is("numbered as they stand", x.pair(1, 0), 0);
    }

    private static void lostBetweenPairsAlone() {
        String pairs = THREE + "pair 0 1 begun 0;pair 2 1 begun 0;";
        good(pairs + "lost 0 0 1;lost 0 1 0;lost 0 2 1;lost 0 1 2;", 10);
        bad(pairs + "lost 0 0 2;", 2, pairs.length() + 9);
        bad(pairs + "lost 0 2 0;", 2, pairs.length() + 9);
        bad(pairs + "lost 0 1 1;", 2, pairs.length() + 9);
        bad(pairs + "lost 0 3 1;", 2, pairs.length() + 7);
        bad(pairs + "lost 0 1 3;", 2, pairs.length() + 9);
        bad(TWO + "lost 0 0 1;pair 0 1 begun 0;", 2, 64);
        CardsAtYule x = Due.land(pairs + "lost 3 1 2;lost 3 1 2;");
        due.is("unlike ones", x.count(6), 1);
        due.is("the first one's card to the other", x.lose(1, 1, 3, 0), 1);
    }

    private static void marks(String marks, int returns, int forgets) {
        CardsAtYule x = Due.land(LAND + "person rule 7" + marks + ";");
        due.is("returns by" + marks, x.person(0, 1), returns);
        due.is("forgets by" + marks, x.person(0, 2), forgets);
    }

    private static void marksOnceInAnyOrder() {
        marks("", 0, 0);
        marks(" returns", 1, 0);
        marks(" forgets 50", 0, 50);
        marks(" returns forgets 1", 1, 1);
        marks(" forgets 49 returns", 1, 49);
        marks(" forgets 0", 0, 0);
        bad(LAND + "person rule 7 returns returns;", 1, 49);
        bad(LAND + "person rule 7 forgets 0 forgets 0;", 1, 51);
        bad(LAND + "person rule 7 forgets 0 forgets 99;", 1, 51);
        bad(LAND + "person rule 7 returns forgets 0 returns;", 1, 59);
        bad(LAND + "person rule 7 forgets 0 returns forgets 0;", 1, 59);
        bad(LAND + "person rule 7 returns forgets;", 1, 56);
        bad(LAND + "person rule 7 returns 1;", 1, 49);
        bad(LAND + "person returns rule 7;", 1, 34);
        marksAreOfOnePerson();
    }

    private static void marksAreOfOnePerson() {
        CardsAtYule x = Due.land(LAND + "person rule 7 returns forgets 9;person rule 7;person rule 7 forgets 8 returns;");
        int[] returns = {1, 0, 1};
        int[] forgets = {9, 0, 8};
        for (int person = 0; person < 3; person++) {
            due.is("returns of " + person, x.person(person, 1), returns[person]);
            due.is("forgets of " + person, x.person(person, 2), forgets[person]);
        }
    }

    private static void landIsTheFirstLineAndNoOther() {
        for (String word : new String[] {"person rule 0;", "pair 0 1 begun 0;", "lost 0 0 1;", "strike 0;", "dies 0 0;",
            "moves 0 0;", "lan", "lands", "foo"}) {
            bad(word, 1, 0);
            bad(" \n" + word, 1, 2);
        }
        bad(LAND + LAND, 1, 27);
        bad(TWO + LAND, 1, TWO.length());
        bad(LAND + "land", 1, 27);
        bad(LAND + "years 5;", 1, 27);
        bad(LAND + "rule 5;", 1, 27);
    }

    private static void laterLinesStrikeEarlierOnes() {
        CardsAtYule x = Due.land(TWO + "dies 0 4;dies 1 0;moves 0 1;dies 0 0;moves 1 4;moves 0 4;moves 1 0;");
        due.is("lines", x.count(7), 10);
        due.is("the later death", x.person(0, 3), 0);
        due.is("the only death", x.person(1, 3), 0);
        due.is("the later move", x.person(0, 4), 4);
        due.is("the later move", x.person(1, 4), 0);
    }

    private static boolean isBlank(int sign) {
        return sign == 32 || sign == 10;
    }

    private static void bytesBehindASign() {
        for (int sign = 0; sign < 256; sign++) {
            if (isBlank(sign)) {
                good(LAND + (char) sign, 1);
            } else {
                bad(LAND + (char) sign, 1, 27);
            }
        }
    }

    private static void bytesBehindAWord() {
        for (int sign = 0; sign < 256; sign++) {
            String text = "land" + (char) sign + "years 5 card 3 hurt 2;";
            if (isBlank(sign)) {
                good(text, 1);
            } else {
                bad(text, 1, sign >= 'a' && sign <= 'z' ? 0 : 4);
            }
        }
    }

    private static void bytesBehindANumber() {
        for (int sign = 0; sign < 256; sign++) {
            String text = "land years 4" + (char) sign + "card 3 hurt 2;";
            if (isBlank(sign) || sign == '0') {
                good(text, 1);
            } else {
                boolean isDigit = sign > '0' && sign <= '9';
                bad(text, isDigit ? 2 : 1, isDigit ? 11 : 12);
            }
        }
    }

    private static void blanksAsideAndLongestTokens() {
        good("land years5card3hurt2;person rule0returns;person rule0forgets0returns;pair0 1begun0;strike0;", 5);
        good("\n land \n\n years  5\ncard 3 hurt 2 \n;\n \nperson\nrule\n0\n;\n", 2);
        bad("landyears 5 card 3 hurt 2;", 1, 0);
        bad(TWO + "pair 01 begun 0;", 1, 63);
        bad(TWO + "pair0 1begun0;strike00 0;", 1, 78);
        bad("la nd years 5 card 3 hurt 2;", 1, 0);
        bad("land years 5 card 3 hurt 2 2;", 1, 27);
    }

    /** A word with one letter changed, one more or one less is no word of the land, so its place is the fault's. */
    private static void everyLetterOfEveryWord() {
        String text = "land years 5 card 3 hurt 2;person rule 0 returns forgets 9;person rule 1;pair 0 1 begun 3;"
            + "lost 1 0 1;strike 2;dies 0 4;moves 1 3;";
        good(text, 8);
        int from = 0;
        for (int i = 0; i < text.length(); i++) {
            if (!Character.isLetter(text.charAt(i))) {
                from = i + 1;
                continue;
            }
            char other = text.charAt(i) == 'q' ? 'x' : 'q';
            bad(text.substring(0, i) + other + text.substring(i + 1), 1, from);
            bad(text.substring(0, i) + other + text.substring(i), 1, from);
            bad(text.substring(0, i) + text.substring(i + 1), 1, from);
            bad(text.substring(0, i) + Character.toUpperCase(text.charAt(i)) + text.substring(i + 1), 1, from);
        }
    }

    /** Within a word it is the word's place, else the end's; a number may end anywhere. */
    private static void endOfTheTextAnywhere() {
        String text = "land years 12 card 3  hurt 45 ; ";
        for (int n = 1; n < 31; n++) {
            int from = n;
            while (from > 0 && Character.isLetter(text.charAt(from - 1))) {
                from--;
            }
            boolean inWord = from < n && Character.isLetter(text.charAt(n));
            bad(text.substring(0, n), 1, inWord ? from : n);
            cut(text, n, inWord ? from : n);
        }
        good(text.substring(0, 0), 0);
        good(text.substring(0, 31), 1);
        good(text, 1);
    }

    /** What was behind the end of the tape is not read, be it a blank, a letter or a digit. */
    private static void cut(String text, int n, int place) {
        CardsAtYule x = new CardsAtYule();
        Due.feed(x, text);
        x.end(n);
        due.is("cut behind " + text.substring(0, n), x.land(), -4);
        due.is("fault of the cut", x.fault(0), 1);
        due.is("place of the cut", x.fault(1), place);
    }

    private static void numbersAreCutAsWell() {
        CardsAtYule x = new CardsAtYule();
        Due.feed(x, "land years 3 card 1 hurt 0;strike 29999");
        x.end(35);
        x.feed(0x20202020, 0x20202020, 0x20202020, 0x20202020, 0x2020203b);
        due.is("strike 2", x.land(), 2);
        due.is("in year 2", x.calls(2, 0), 1);
    }

    private static void firstFaultByItsPlace() {
        bad("land years 0 card 100 hurt foo", 2, 11);
        bad("land years 1 card 100 hurt foo", 2, 18);
        bad("land years 1 card 0 hurt foo 3", 1, 25);
        bad(TWO + "pair 2 2 begun 16;", 2, 60);
        bad(TWO + "pair 0 0 begun 16;", 2, 62);
        bad(TWO + "lost 5 2 2;", 2, 60);
        bad(TWO + "lost 4 2 2;", 2, 62);
        bad(TWO + "dies 2 5;", 2, 60);
        bad(TWO + "moves 1 5 5;", 2, 63);
        bad(TEN + "foo;person rule 0;", 1, TEN.length());
        bad(TEN + "person rule 0;foo;", 3, TEN.length());
    }
}
