/** The edges of promises 6 to 24 and of term II: a full land, a land of nobody, the years of mishaps. */
public final class EdgeLandTest {
    private static final Due due = new Due();

    private static final String BOTH_SEND = "land years 5 card 3 hurt 2;person rule 15;person rule 15;pair 0 1 begun 0;";
    private static final String BY_RETURN = "land years 5 card 3 hurt 2;person rule 15;person rule 0 returns;"
        + "pair 0 1 begun 0;";
    private static final String SILENT = "land years 40 card 99 hurt 99;" + "person rule 0;".repeat(10)
        + Edge.pairsOfTen(16);

    public static void main(String[] args) {
        personOfAFullLand();
        personWithoutDeathOrMove();
        pairOfAFullLand();
        ofTwoPeople();
        doesByRules();
        sendsAndGotOfAFullLand();
        sendsAndGotOfOneYear();
        stateBehindTheLastYear();
        stateBitByBit();
        firstYearByRuleAndState();
        cardsOfAFullLand();
        listMantelWhoseOfAFullLand();
        hurtsAtTheirMost();
        costAtItsMost();
        dearestOfSeveralAndNobody();
        lastYearOfAPair();
        overOfAllAndNone();
        poorestOfSeveral();
        oddsAtTheirMost();
        streaks();
        deathFromItsYearOn();
        moveInItsYearAlone();
        lossInItsYearAlone();
        strikeInItsYearAlone();
        nobodyAtAll();
        due.end();
    }

    private static CardsAtYule full() {
        return Due.land(Edge.FULL_LAND);
    }

    private static void personOfAFullLand() {
        CardsAtYule x = full();
        Edge.taken(due, "person", 0, 9, -2, n -> x.person(n, 0));
        Edge.taken(due, "what of a person", 0, 4, -2, n -> x.person(9, n));
        CardsAtYule y = Due.land(BOTH_SEND);
        Edge.taken(due, "person of two", 0, 1, -2, n -> y.person(n, 4));
    }

    private static void personWithoutDeathOrMove() {
        CardsAtYule x = Due.land(Edge.FULL_LAND + "dies 9 39;moves 9 0;dies 8 0;moves 7 39;");
        int[][] want = {{7, -1, 39}, {8, 0, -1}, {9, 39, 0}, {6, -1, -1}};
        for (int[] w : want) {
            due.is("death of " + w[0], x.person(w[0], 3), w[1]);
            due.is("move of " + w[0], x.person(w[0], 4), w[2]);
        }
    }

    private static void pairOfAFullLand() {
        CardsAtYule x = full();
        Edge.taken(due, "pair", 0, 15, -2, n -> x.pair(n, 2));
        Edge.taken(due, "what of a pair", 0, 2, -2, n -> x.pair(15, n));
        due.is("side 0 of the first", x.pair(0, 0), 0);
        due.is("side 1 of the first", x.pair(0, 1), 1);
        due.is("side 0 of the last", x.pair(15, 0), 1);
        due.is("side 1 of the last", x.pair(15, 1), 8);
        due.is("how the last was begun", x.pair(15, 2), 15);
    }

    private static void ofTwoPeople() {
        CardsAtYule x = full();
        Edge.taken(due, "of 0 with", 1, 9, -2, n -> x.of(0, n));
        Edge.taken(due, "of 9 with", 0, 8, -2, n -> x.of(9, n));
        Edge.taken(due, "0 with of", 1, 9, -2, n -> x.of(n, 0));
        for (int person = 0; person < 10; person++) {
            due.is(person + " twice", x.of(person, person), -2);
        }
        due.is("the first pair", x.of(1, 0), 0);
        due.is("the last pair", x.of(1, 8), 15);
        due.is("the last pair from its other side", x.of(8, 1), 15);
        due.is("they are none", x.of(1, 9), -1);
        due.is("they are none", x.of(9, 8), -1);
        due.is("none such twice", x.of(10, 10), -2);
    }

    private static void doesByRules() {
        CardsAtYule x = new CardsAtYule();
        Edge.taken(due, "does of a rule", 0, 15, -2, n -> x.does(n, 0, 0));
        Edge.taken(due, "does with last", 0, 1, -2, n -> x.does(15, n, 0));
        Edge.taken(due, "does with ahead", 0, 1, -2, n -> x.does(15, 0, n));
        for (int rule = 0; rule < 16; rule++) {
            due.is("none in both, " + rule, x.does(rule, 0, 0), rule % 2);
            due.is("in the last alone, " + rule, x.does(rule, 1, 0), rule / 2 % 2);
            due.is("in the one ahead alone, " + rule, x.does(rule, 0, 1), rule / 4 % 2);
            due.is("in both, " + rule, x.does(rule, 1, 1), rule / 8);
        }
    }

    private static void sendsAndGotOfAFullLand() {
        CardsAtYule x = full();
        Edge.taken(due, "sends of a pair", 0, 15, -2, n -> x.sends(n, 0, 0));
        Edge.taken(due, "sends of a side", 0, 1, -2, n -> x.sends(15, n, 39));
        Edge.taken(due, "sends in a year", 0, 39, -2, n -> x.sends(15, 1, n));
        Edge.taken(due, "got of a pair", 0, 15, -2, n -> x.got(n, 0, 0));
        Edge.taken(due, "got of a side", 0, 1, -2, n -> x.got(15, n, 39));
        Edge.taken(due, "got in a year", 0, 39, -2, n -> x.got(15, 1, n));
        due.is("sends at last", x.sends(15, 1, 39), 1);
        due.is("got at last", x.got(15, 1, 39), 1);
    }

    private static void sendsAndGotOfOneYear() {
        CardsAtYule x = Due.land(BY_RETURN.replace("years 5", "years 1"));
        Edge.taken(due, "sends in one year", 0, 0, -2, n -> x.sends(0, 1, n));
        Edge.taken(due, "got in one year", 0, 0, -2, n -> x.got(0, 1, n));
        Edge.taken(due, "sends of one pair", 0, 0, -2, n -> x.sends(n, 1, 0));
        due.is("first", x.sends(0, 0, 0), 1);
        due.is("by return", x.sends(0, 1, 0), 2);
        due.is("nothing", Due.land(SILENT).sends(0, 0, 0), 0);
    }

    private static void stateBehindTheLastYear() {
        CardsAtYule x = full();
        Edge.taken(due, "state ahead of a year", 0, 40, -2, n -> x.state(15, n));
        Edge.taken(due, "state of a pair", 0, 15, -2, n -> x.state(n, 40));
        CardsAtYule y = Due.land(BOTH_SEND.replace("years 5", "years 1"));
        Edge.taken(due, "state of one year", 0, 1, -2, n -> y.state(0, n));
        due.is("ahead of it", y.state(0, 0), 0);
        due.is("behind it", y.state(0, 1), 5);
        CardsAtYule z = Due.land(Edge.FULL_LAND + "strike 39;");
        due.is("ahead of the last", z.state(0, 39), 15);
        due.is("behind the last", z.state(0, 40), 10);
        CardsAtYule w = Due.land(Edge.FULL_LAND + "strike 38;");
        due.is("ahead of the last, the strike the last", w.state(0, 39), 10);
        due.is("behind the last, the strike ahead of it", w.state(0, 40), 5);
    }

    /** What was got in the last year is, a year later, what was got in the one ahead of it. */
    private static void stateBitByBit() {
        int[] later = {5, 7, 5, 7, 13, 15, 13, 15, 5, 7, 5, 7, 13, 15, 13, 15};
        CardsAtYule x = Due.land(BOTH_SEND);
        for (int begun = 0; begun < 16; begun++) {
            x.begin(0, begun);
            due.is("state ahead of the first year", x.state(0, 0), begun);
            due.is("state a year later from " + begun, x.state(0, 1), later[begun]);
            due.is("state two years later", x.state(0, 2), 15);
        }
        String[] sides = {"lost 0 1 0;", "lost 0 0 1;"};
        int[] first = {4, 1};
        int[] second = {13, 7};
        for (int side = 0; side < 2; side++) {
            CardsAtYule y = Due.land(BOTH_SEND + sides[side]);
            due.is("side " + side + " got none in the last year", y.state(0, 1), first[side]);
            due.is("side " + side + " got none in the one ahead", y.state(0, 2), second[side]);
        }
    }

    private static void firstYearByRuleAndState() {
        for (int rule = 0; rule < 16; rule++) {
            CardsAtYule x = Due.land(BOTH_SEND);
            x.train(0, 0, rule);
            x.train(1, 0, rule);
            for (int begun = 0; begun < 16; begun++) {
                x.begin(0, begun);
                due.is("side 0, rule " + rule + " from " + begun, x.sends(0, 0, 0), rule >> begun % 4 & 1);
                due.is("side 1, rule " + rule + " from " + begun, x.sends(0, 1, 0), rule >> begun / 4 & 1);
            }
        }
    }

    private static void cardsOfAFullLand() {
        CardsAtYule x = Due.land(Edge.FULL_LAND + "strike 39;");
        Edge.taken(due, "cards in a year", 0, 39, -2, n -> x.cards(n, 2));
        Edge.taken(due, "what of cards", 0, 2, -2, n -> x.cards(39, n));
        int[][] want = {{0, 32, 32, 0}, {38, 32, 32, 0}, {39, 32, 0, 32}};
        for (int[] w : want) {
            for (int what = 0; what < 3; what++) {
                due.is("cards " + w[0] + " " + what, x.cards(w[0], what), w[1 + what]);
            }
        }
        CardsAtYule y = Due.land(SILENT);
        for (int what = 0; what < 3; what++) {
            due.is("cards of silence " + what, y.cards(39, what), 0);
        }
    }

    private static void listMantelWhoseOfAFullLand() {
        CardsAtYule x = full();
        Edge.taken(due, "list of a person", 0, 9, -2, n -> x.list(n, 0));
        Edge.taken(due, "list in a year", 0, 39, -2, n -> x.list(9, n));
        Edge.taken(due, "mantel of a person", 0, 9, -2, n -> x.mantel(n, 0));
        Edge.taken(due, "mantel in a year", 0, 39, -2, n -> x.mantel(9, n));
        Edge.taken(due, "whose of a person", 0, 9, -2, n -> x.whose(n, 0));
        Edge.taken(due, "whose in a year", 0, 39, -2, n -> x.whose(9, n));
        int[][] want = {{0, 9, 0x3FE}, {1, 8, 0x1FD}, {8, 2, 3}, {9, 1, 1}};
        for (int[] w : want) {
            due.is("list of " + w[0], x.list(w[0], 39), w[1]);
            due.is("mantel of " + w[0], x.mantel(w[0], 39), w[1]);
            due.is("whose of " + w[0], x.whose(w[0], 39), w[2]);
        }
    }

    private static void hurtsAtTheirMost() {
        CardsAtYule x = full();
        Edge.taken(due, "hurts of a person", 0, 9, -2, n -> x.hurts(n, 0));
        Edge.taken(due, "what of hurts", 0, 1, -2, n -> x.hurts(9, n));
        due.is("no hurts", x.hurts(0, 0), 0);
        due.is("no shames", x.hurts(0, 1), 0);
        strikeAlways(x);
        due.is("hurts in each year, by each", x.hurts(0, 0), 360);
        due.is("none got, no shames", x.hurts(0, 1), 0);
        CardsAtYule y = full();
        y.train(0, 0, 0);
        due.is("sends none, no hurts", y.hurts(0, 0), 0);
        due.is("shames in each year, by each", y.hurts(0, 1), 360);
        due.is("the other's hurts", y.hurts(9, 0), 40);
    }

    private static void strikeAlways(CardsAtYule x) {
        for (int year = 0; year < 40; year++) {
            x.calls(year, 1);
        }
    }

    private static void costAtItsMost() {
        CardsAtYule x = full();
        Edge.taken(due, "cost of a person", 0, 9, -2, n -> x.cost(n));
        due.is("cards of forty years", x.cost(0), 9 * 40 * 99);
        strikeAlways(x);
        due.is("and hurts", x.cost(0), 9 * 40 * 198);
        due.is("of one pair", x.cost(9), 40 * 198);
        due.is("of silence", Due.land(SILENT).cost(0), 0);
        due.is("card 0, hurt 0", Due.land(BOTH_SEND.replace("card 3 hurt 2", "card 0 hurt 0")).cost(0), 0);
    }

    private static void dearestOfSeveralAndNobody() {
        due.is("no land", new CardsAtYule().dearest(), -2);
        due.is("nobody", Due.land("land years 1 card 1 hurt 1;").dearest(), -1);
        due.is("one", Due.land("land years 1 card 1 hurt 1;person rule 0;").dearest(), 0);
        due.is("the first of several", Due.land(BOTH_SEND).dearest(), 0);
        due.is("the first of ten at no cost", Due.land(SILENT).dearest(), 0);
        CardsAtYule x = Due.land(SILENT);
        x.train(9, 0, 15);
        due.is("the last", x.dearest(), 9);
        x.train(5, 0, 15);
        due.is("the first of two behind others", x.dearest(), 5);
    }

    private static void lastYearOfAPair() {
        CardsAtYule x = full();
        Edge.taken(due, "last of a pair", 0, 15, -2, n -> x.last(n));
        due.is("the last year", x.last(15), 39);
        due.is("none", Due.land(SILENT).last(15), -1);
        due.is("the first year", Due.land(BOTH_SEND + "dies 0 1;dies 1 1;").last(0), 0);
        due.is("side 0 alone", Due.land(BOTH_SEND + "dies 1 1;").last(0), 4);
        due.is("side 1 alone", Due.land(BOTH_SEND + "dies 0 1;").last(0), 4);
        due.is("dead from the first year on", Due.land(BOTH_SEND + "dies 0 0;dies 1 0;").last(0), -1);
        due.is("what is sent need not come", Due.land(BOTH_SEND + "strike 4;").last(0), 4);
    }

    private static void overOfAllAndNone() {
        due.is("no land", new CardsAtYule().over(), -2);
        due.is("no pairs", Due.land("land years 1 card 1 hurt 1;").over(), 0);
        due.is("none", full().over(), 0);
        due.is("all", Due.land(SILENT).over(), 16);
        due.is("in the last year", Due.land(BOTH_SEND + "dies 0 4;dies 1 4;").over(), 1);
        due.is("one still sends", Due.land(BOTH_SEND + "dies 0 4;").over(), 0);
        due.is("a strike is no silence", Due.land(BOTH_SEND + "strike 4;").over(), 0);
    }

    private static void poorestOfSeveral() {
        due.is("no land", new CardsAtYule().poorest(), -2);
        due.is("no cards at all", Due.land("land years 40 card 1 hurt 1;").poorest(), 0);
        due.is("the first of forty", full().poorest(), 0);
        due.is("the last", Due.land(Edge.FULL_LAND + "dies 9 39;").poorest(), 39);
        due.is("the second", Due.land(Edge.FULL_LAND + "dies 9 1;").poorest(), 1);
        due.is("the first of the later ones", Due.land(Edge.FULL_LAND + "dies 9 7;").poorest(), 7);
        due.is("sent, not come", Due.land(Edge.FULL_LAND + "strike 7;").poorest(), 0);
    }

    private static void oddsAtTheirMost() {
        CardsAtYule x = Due.land(SILENT);
        Edge.taken(due, "odds of a pair", 0, 15, -100, n -> x.odds(n));
        due.is("even", x.odds(0), 0);
        x.train(0, 0, 15);
        due.is("forty more", x.odds(0), 40);
        x.train(0, 0, 0);
        x.train(1, 0, 15);
        due.is("forty fewer", x.odds(0), -40);
        due.is("no land", new CardsAtYule().odds(0), -100);
        CardsAtYule y = Due.land(SILENT);
        y.train(8, 0, 15);
        for (int pair = 0; pair < 16; pair++) {
            due.is("odds of pair " + pair, y.odds(pair), pair == 7 || pair == 15 ? -40 : 0);
        }
    }

    private static void streaks() {
        CardsAtYule x = full();
        Edge.taken(due, "streak of a pair", 0, 15, -2, n -> x.streak(n, 0));
        Edge.taken(due, "what of a streak", 0, 1, -2, n -> x.streak(15, n));
        due.is("all years", x.streak(15, 0), 40);
        due.is("from the first on", x.streak(15, 1), 0);
        streak("", 5, 0);
        streak("strike 2;", 2, 0);
        streak("strike 1;", 3, 2);
        streak("strike 3;", 3, 0);
        streak("strike 0;", 4, 1);
        streak("strike 4;", 4, 0);
        streak("strike 1;strike 2;strike 3;strike 4;", 1, 0);
        streak("strike 0;strike 1;strike 2;strike 3;", 1, 4);
        streak("strike 0;strike 2;strike 4;", 1, 1);
        streak("strike 0;strike 1;strike 2;strike 3;strike 4;", 0, -1);
        streak("lost 0 0 1;lost 2 1 0;", 2, 3);
        streak("dies 0 0;", 0, -1);
    }

    private static void streak(String mishaps, int length, int from) {
        CardsAtYule x = Due.land(BOTH_SEND + mishaps);
        due.is("streak with " + mishaps, x.streak(0, 0), length);
        due.is("its first year with " + mishaps, x.streak(0, 1), from);
    }

    /** What both sides do and get, year by year: sends of side 0, of side 1, got of side 0, of side 1. */
    private static void goes(String text, String sends0, String sends1, String got0, String got1) {
        CardsAtYule x = Due.land(text);
        for (int year = 0; year < 5; year++) {
            due.is("side 0 sends in " + year + " by " + text, x.sends(0, 0, year), sends0.charAt(year) - '0');
            due.is("side 1 sends in " + year + " by " + text, x.sends(0, 1, year), sends1.charAt(year) - '0');
            due.is("side 0 got in " + year + " by " + text, x.got(0, 0, year), got0.charAt(year) - '0');
            due.is("side 1 got in " + year + " by " + text, x.got(0, 1, year), got1.charAt(year) - '0');
        }
    }

    private static void deathFromItsYearOn() {
        goes(BOTH_SEND + "dies 0 0;", "00000", "11111", "00000", "00000");
        goes(BOTH_SEND + "dies 0 2;", "11000", "11111", "11000", "11000");
        goes(BOTH_SEND + "dies 1 4;", "11111", "11110", "11110", "11110");
        goes(BY_RETURN + "dies 1 2;", "11111", "22000", "11000", "11000");
        goes(BY_RETURN + "dies 0 2;", "11000", "22000", "11000", "11000");
        goes(BOTH_SEND + "dies 0 4;dies 0 2;", "11000", "11111", "11000", "11000");
        goes(BOTH_SEND + "dies 0 2;dies 0 4;", "11110", "11111", "11110", "11110");
    }

    private static void moveInItsYearAlone() {
        goes(BOTH_SEND + "moves 0 0;", "11111", "11111", "01111", "11111");
        goes(BOTH_SEND + "moves 1 4;", "11111", "11111", "11111", "11110");
        goes(BY_RETURN + "moves 1 2;", "11111", "22022", "11011", "11011");
        goes(BY_RETURN + "moves 0 2;", "11111", "22222", "11011", "11111");
        goes(BOTH_SEND + "moves 0 1;moves 0 3;", "11111", "11111", "11101", "11111");
        goes(BOTH_SEND + "moves 0 1;dies 0 3;", "11100", "11111", "10100", "11100");
    }

    private static void lossInItsYearAlone() {
        goes(BOTH_SEND + "lost 0 0 1;", "11111", "11111", "11111", "01111");
        goes(BOTH_SEND + "lost 4 1 0;", "11111", "11111", "11110", "11111");
        goes(BY_RETURN + "lost 2 0 1;", "11111", "22022", "11011", "11011");
        goes(BY_RETURN + "lost 2 1 0;", "11111", "22222", "11011", "11111");
    }

    private static void strikeInItsYearAlone() {
        goes(BOTH_SEND + "strike 0;", "11111", "11111", "01111", "01111");
        goes(BOTH_SEND + "strike 4;", "11111", "11111", "11110", "11110");
        goes(BY_RETURN + "strike 2;", "11111", "22022", "11011", "11011");
    }

    private static void nobodyAtAll() {
        CardsAtYule x = Due.land("land years 1 card 0 hurt 0;");
        Edge.taken(due, "cards of nobody", 0, 0, -2, n -> x.cards(n, 0));
        long[] refused = {x.person(0, 0), x.pair(0, 0), x.of(0, 1), x.sends(0, 0, 0), x.got(0, 0, 0), x.state(0, 0),
            x.list(0, 0), x.mantel(0, 0), x.whose(0, 0), x.hurts(0, 0), x.cost(0), x.last(0), x.streak(0, 0)};
        for (int i = 0; i < refused.length; i++) {
            due.is("call " + i + " with nobody", refused[i], -2);
        }
        due.is("odds with nobody", x.odds(0), -100);
        CardsAtYule y = Due.land("land years 1 card 0 hurt 0;person rule 15;person rule 15;");
        due.is("two who are no pair", y.of(0, 1), -1);
        due.is("list without pairs", y.list(1, 0), 0);
        due.is("mantel without pairs", y.mantel(1, 0), 0);
        due.is("whose without pairs", y.whose(1, 0), 0);
        due.is("hurts without pairs", y.hurts(1, 0), 0);
        due.is("cost without pairs", y.cost(1), 0);
    }
}
