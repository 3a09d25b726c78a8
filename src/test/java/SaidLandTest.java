import java.io.IOException;

/** Promises 1 to 24, part by part, each with answers that are worked out by hand. */
public final class SaidLandTest {
    private static final String LAND = "land years 5 card 3 hurt 2;";

    /**
     * Pair 0: side 0 sends 111110 and gets 111100, side 1 sends 111210 and gets 110100, states 5 15 15 11 7 10 0.
     * Pair 1: side 0 sends 111110 and gets 111101, side 1 sends 111111 and gets 101100, states 5 15 11 7 15 10 1.
     */
    private static final String YULE = "land years 6 card 3 hurt 5;"
        + "person rule 10;person rule 10 returns;person rule 14 forgets 25;"
        + "pair 0 1 begun 5;pair 0 2 begun 5;lost 2 0 1;strike 4;moves 2 1;";

    private final Sentences doc = new Sentences();

    private SaidLandTest() throws IOException {
    }

    public static void main(String[] args) throws IOException {
        SaidLandTest test = new SaidLandTest();
        test.newObject();
        test.feed();
        test.end();
        test.land();
        test.fault();
        test.person();
        test.pair();
        test.of();
        test.does();
        test.sends();
        test.got();
        test.state();
        test.cards();
        test.list();
        test.mantel();
        test.whose();
        test.hurts();
        test.cost();
        test.dearest();
        test.last();
        test.over();
        test.poorest();
        test.odds();
        test.streak();
        test.doc.endOfPromises(1, 24);
    }

    private void newObject() {
        doc.section("Promise 1: A new object");
        doc.says("No LAND.");
        CardsAtYule x = new CardsAtYule();
        doc.all("who asks for one", -2, x.dearest(), x.over(), x.poorest(), x.mildest(), x.life(0, 0));
        doc.all("people, pairs, years", -2, x.person(0, 0), x.pair(0, 0), x.cards(0, 0), x.strike(0), x.calls(0, 1));
        doc.all("counts", 0, x.count(0), x.count(1), x.count(2), x.count(5), x.count(6), x.count(7), x.count(8));
    }

    private void feed() {
        doc.section("Promise 2: feed");
        doc.says("Twenty bytes come behind the TAPE, four of each number, the highest first:");
        CardsAtYule x = new CardsAtYule();
        x.feed(0x6c616e64, 0x20796561, 0x72732037, 0x20636172, 0x64203820);
        x.feed(0x68757274, 0x20393b20, 0x20202020, 0x20202020, 0x20202020);
        doc.is("land years 7 card 8 hurt 9;", x.land(), 1);
        doc.are("years, card, hurt", new long[] {x.count(2), x.count(3), x.count(4)}, 7, 8, 9);

        doc.says("how many it has;");
        doc.are("feed", new long[] {x.feed(0, 0, 0, 0, 0), x.feed(-1, -1, -1, -1, -1), x.count(8)}, 20, 40, 40);
        x.end(33);
        doc.is("behind 33 bytes", x.feed(0, 0, 0, 0, 0), 53);

        doc.says("NONE, and none come, if it would have more than 1,600.");
        x.end(0);
        for (int i = 1; i <= 80; i++) {
            doc.is("feed", x.feed(0, 0, 0, 0, 0), 20 * i);
        }
        doc.are("feed of a full one", new long[] {x.feed(0, 0, 0, 0, 0), x.count(8)}, -1, 1600);
        x.end(1581);
        doc.are("feed behind 1,581", new long[] {x.feed(0, 0, 0, 0, 0), x.count(8)}, -1, 1581);
        x.end(1580);
        doc.are("feed behind 1,580", new long[] {x.feed(0, 0, 0, 0, 0), x.count(8)}, 1600, 1600);
    }

    private void end() {
        doc.section("Promise 3: end");
        doc.says("The TAPE has its first n bytes alone: n;");
        CardsAtYule x = new CardsAtYule();
        Due.feed(x, LAND + "nonsense");
        doc.are("end", new long[] {x.end(35), x.end(27), x.count(8), x.land()}, 35, 27, 27, 1);
        Due.feed(x, LAND);
        doc.are("end of all", new long[] {x.end(0), x.count(8), x.end(0), x.land()}, 0, 0, 0, 0);

        doc.says("NONE, and nothing happens, if it has not so many, or n is below 0.");
        Due.feed(x, LAND);
        doc.all("end", -1, x.end(28), x.end(1600), x.end(Integer.MAX_VALUE), x.end(-1), x.end(Integer.MIN_VALUE));
        doc.are("it stays", new long[] {x.count(8), x.land()}, 27, 1);
        doc.is("end of an empty one", x.end(1), -1);
    }

    private void land() {
        doc.section("Promise 4: land");
        doc.says("The TAPE (empty then) is the LAND (in place of another): how many LINES (0: there is none then).");
        CardsAtYule x = new CardsAtYule();
        doc.are("the first", new long[] {Due.tell(x, YULE), x.count(8), x.count(0), x.count(1), x.count(7)}, 9, 0, 3, 2, 9);
        doc.are("another", new long[] {Due.tell(x, LAND + "person rule 1;"), x.count(0), x.count(1), x.count(5), x.count(6),
            x.count(2), x.person(0, 0), x.person(1, 0)}, 2, 1, 0, 0, 0, 5, 1, -2);
        doc.are("none", new long[] {x.land(), x.count(7), x.dearest(), x.person(0, 0)}, 0, 0, -2, -2);

        doc.says("-4: a FAULT (all stays).");
        Due.tell(x, YULE);
        String wrong = LAND + "person rule 1;strike 5;";
        doc.are("a fault", new long[] {Due.tell(x, wrong), x.count(8), x.land()}, -4, wrong.length(), -4);
        doc.are("the land stays", new long[] {x.count(0), x.count(1), x.count(2), x.count(5), x.count(6), x.count(7),
            x.cost(0)}, 3, 2, 6, 1, 1, 9, 40);
    }

    private void fault() {
        doc.section("Promise 5: fault");
        doc.says("Of the latest land(), what 0: its FAULT, 0 without, 1: its place (NONE without).");
        CardsAtYule x = new CardsAtYule();
        Due.tell(x, LAND + "strike 5;");
        doc.are("a number out of its bounds", new long[] {x.fault(0), x.fault(1)}, 2, 34);
        Due.tell(x, LAND + "strikes 5;");
        doc.are("no such word", new long[] {x.fault(0), x.fault(1)}, 1, 27);
        x.end(0);
        doc.are("the tape does not matter", new long[] {x.fault(0), x.fault(1)}, 1, 27);
        Due.tell(x, LAND);
        doc.are("without", new long[] {x.fault(0), x.fault(1)}, 0, -1);
        Due.tell(x, LAND + "person rule 0;".repeat(11));
        doc.are("an 11th person", new long[] {x.fault(0), x.fault(1)}, 3, 27 + 140);

        doc.says("NONE for another what, and ahead of any (what 1).");
        doc.all("another", -1, x.fault(2), x.fault(-1), x.fault(Integer.MAX_VALUE), x.fault(Integer.MIN_VALUE));
        CardsAtYule y = new CardsAtYule();
        doc.are("ahead of any", new long[] {y.fault(0), y.fault(1), y.fault(2)}, 0, -1, -1);
    }

    private void person() {
        doc.section("Promise 6: person");
        doc.says("Of a PERSON, what 0: RULE, 1: 1 if by return, 2: forgets, 3: the YEAR of death (NONE), 4: of the move "
            + "(NONE).");
        CardsAtYule x = Due.land(LAND + "person rule 13;person rule 7 forgets 31 returns;dies 1 4;moves 1 0;");
        doc.are("person 0", new long[] {x.person(0, 0), x.person(0, 1), x.person(0, 2), x.person(0, 3), x.person(0, 4)},
            13, 0, 0, -1, -1);
        doc.are("person 1", new long[] {x.person(1, 0), x.person(1, 1), x.person(1, 2), x.person(1, 3), x.person(1, 4)},
            7, 1, 31, 4, 0);

        doc.says("-2: there are none such.");
        doc.all("no such", -2, x.person(2, 0), x.person(-1, 0), x.person(0, 5), x.person(0, -1), x.person(2, 5));
    }

    private void pair() {
        doc.section("Promise 7: pair");
        doc.says("Of a PAIR, what 0, 1: its two, 2: how it was begun.");
        CardsAtYule x = Due.land(LAND + "person rule 0;person rule 0;person rule 0;pair 2 0 begun 9;pair 1 2 begun 6;");
        doc.are("pair 0", new long[] {x.pair(0, 0), x.pair(0, 1), x.pair(0, 2)}, 2, 0, 9);
        doc.are("pair 1", new long[] {x.pair(1, 0), x.pair(1, 1), x.pair(1, 2)}, 1, 2, 6);

        doc.says("-2: there are none such.");
        doc.all("no such", -2, x.pair(2, 0), x.pair(-1, 0), x.pair(0, 3), x.pair(0, -1), x.pair(2, 3));
    }

    private void of() {
        doc.section("Promise 8: of");
        doc.says("The PAIR of two PEOPLE;");
        CardsAtYule x = Due.land(YULE);
        doc.are("either way", new long[] {x.of(0, 1), x.of(1, 0), x.of(0, 2), x.of(2, 0)}, 0, 0, 1, 1);

        doc.says("NONE: they are none.");
        doc.are("1 and 2", new long[] {x.of(1, 2), x.of(2, 1)}, -1, -1);

        doc.says("-2: there are none such, one twice.");
        doc.all("no such", -2, x.of(0, 3), x.of(3, 0), x.of(-1, 0), x.of(0, -1), x.of(0, 0), x.of(2, 2), x.of(3, 3));
    }

    private void does() {
        doc.section("Promise 9: does");
        doc.says("Whether a RULE sends first (II) who got one in the last YEAR (1, 0), in the one ahead of it: 1, 0.");
        CardsAtYule x = new CardsAtYule();
        for (int bit = 0; bit < 4; bit++) {
            for (int state = 0; state < 4; state++) {
                doc.is("rule " + (1 << bit) + " by " + state, x.does(1 << bit, state & 1, state >> 1), state == bit ? 1 : 0);
            }
        }
        doc.all("rule 15", 1, x.does(15, 0, 0), x.does(15, 1, 0), x.does(15, 0, 1), x.does(15, 1, 1));
        doc.all("rule 0", 0, x.does(0, 0, 0), x.does(0, 1, 0), x.does(0, 0, 1), x.does(0, 1, 1));

        doc.says("-2: there is no such RULE, others.");
        doc.all("no such", -2, x.does(-1, 0, 0), x.does(16, 0, 0), x.does(0, 2, 0), x.does(0, -1, 0), x.does(0, 0, 2),
            x.does(0, 0, -1), x.does(Integer.MIN_VALUE, 0, 0));
    }

    private void sends() {
        doc.section("Promise 10: sends");
        doc.says("What a side (0, 1) of a PAIR does in a YEAR: 0 nothing, 1 sends first, 2 by return.");
        CardsAtYule x = Due.land(YULE);
        int[] want = {111110, 111210, 111110, 111111};
        for (int i = 0; i < 4; i++) {
            long row = 0;
            for (int year = 0; year < 6; year++) {
                row = 10 * row + x.sends(i / 2, i % 2, year);
            }
            doc.is("pair " + i / 2 + ", side " + i % 2, row, want[i]);
        }

        doc.says("-2: there are none such.");
        doc.all("no such", -2, x.sends(2, 0, 0), x.sends(-1, 0, 0), x.sends(0, 2, 0), x.sends(0, -1, 0), x.sends(0, 0, 6),
            x.sends(0, 0, -1));
    }

    private void got() {
        doc.section("Promise 11: got");
        doc.says("Whether it got one then: 1, 0.");
        CardsAtYule x = Due.land(YULE);
        int[] want = {111100, 110100, 111101, 101100};
        for (int i = 0; i < 4; i++) {
            long row = 0;
            for (int year = 0; year < 6; year++) {
                row = 10 * row + x.got(i / 2, i % 2, year);
            }
            doc.is("pair " + i / 2 + ", side " + i % 2, row, want[i]);
        }

        doc.says("-2 likewise.");
        doc.all("no such", -2, x.got(2, 0, 0), x.got(-1, 0, 0), x.got(0, 2, 0), x.got(0, -1, 0), x.got(0, 0, 6),
            x.got(0, 0, -1));
    }

    private void state() {
        doc.section("Promise 12: state");
        doc.says("STATE of a PAIR ahead of a YEAR (YEARS: behind the last).");
        CardsAtYule x = Due.land(YULE);
        int[][] want = {{5, 15, 15, 11, 7, 10, 0}, {5, 15, 11, 7, 15, 10, 1}};
        for (int pair = 0; pair < 2; pair++) {
            for (int year = 0; year <= 6; year++) {
                doc.is("pair " + pair + " ahead of " + year, x.state(pair, year), want[pair][year]);
            }
        }

        doc.says("-2: there are none such.");
        doc.all("no such", -2, x.state(2, 0), x.state(-1, 0), x.state(0, 7), x.state(0, -1));
    }

    private void cards() {
        doc.section("Promise 13: cards");
        doc.says("Cards that are sent in a YEAR (what 0), that come (1), that are lost (2).");
        CardsAtYule x = Due.land(YULE);
        int[][] want = {{4, 4, 0}, {4, 3, 1}, {4, 3, 1}, {4, 4, 0}, {4, 0, 4}, {1, 1, 0}};
        for (int year = 0; year < 6; year++) {
            for (int what = 0; what < 3; what++) {
                doc.is("year " + year + ", what " + what, x.cards(year, what), want[year][what]);
            }
        }

        doc.says("-2: there are none such.");
        doc.all("no such", -2, x.cards(6, 0), x.cards(-1, 0), x.cards(0, 3), x.cards(0, -1));
    }

    private void list() {
        doc.section("Promise 14: list");
        doc.says("LIST: cards that a PERSON sends in a YEAR.");
        CardsAtYule x = Due.land(YULE);
        doc.are("person 0", new long[] {x.list(0, 0), x.list(0, 3), x.list(0, 4), x.list(0, 5)}, 2, 2, 2, 0);
        doc.are("person 1", new long[] {x.list(1, 0), x.list(1, 3), x.list(1, 4), x.list(1, 5)}, 1, 1, 1, 0);
        doc.are("person 2", new long[] {x.list(2, 0), x.list(2, 3), x.list(2, 4), x.list(2, 5)}, 1, 1, 1, 1);

        doc.says("-2: there are none such.");
        doc.all("no such", -2, x.list(3, 0), x.list(-1, 0), x.list(0, 6), x.list(0, -1));
    }

    private void mantel() {
        doc.section("Promise 15: mantel");
        doc.says("MANTELPIECE: cards that he gets in a YEAR.");
        CardsAtYule x = Due.land(YULE);
        doc.are("person 0", new long[] {x.mantel(0, 0), x.mantel(0, 3), x.mantel(0, 4), x.mantel(0, 5)}, 2, 2, 0, 1);
        doc.are("person 1", new long[] {x.mantel(1, 1), x.mantel(1, 2), x.mantel(1, 3), x.mantel(1, 4)}, 1, 0, 1, 0);
        doc.are("person 2", new long[] {x.mantel(2, 0), x.mantel(2, 1), x.mantel(2, 2), x.mantel(2, 5)}, 1, 0, 1, 0);

        doc.says("-2: there are none such.");
        doc.all("no such", -2, x.mantel(3, 0), x.mantel(-1, 0), x.mantel(0, 6), x.mantel(0, -1));
    }

    private void whose() {
        doc.section("Promise 16: whose");
        doc.says("Of whom a PERSON gets one in a YEAR, as bits.");
        CardsAtYule x = Due.land(YULE);
        doc.are("person 0", new long[] {x.whose(0, 0), x.whose(0, 4), x.whose(0, 5)}, 6, 0, 4);
        doc.are("person 1", new long[] {x.whose(1, 0), x.whose(1, 2), x.whose(1, 3)}, 1, 0, 1);
        doc.are("person 2", new long[] {x.whose(2, 0), x.whose(2, 1), x.whose(2, 2)}, 1, 0, 1);

        doc.says("-2: there are none such.");
        doc.all("no such", -2, x.whose(3, 0), x.whose(-1, 0), x.whose(0, 6), x.whose(0, -1));
    }

    private void hurts() {
        doc.section("Promise 17: hurts");
        doc.says("HURTS: how often a PERSON sends and gets none back (what 0), gets and sends none (1: SHAMES), in all "
            + "YEARS.");
        CardsAtYule x = Due.land(YULE);
        doc.are("hurts", new long[] {x.hurts(0, 0), x.hurts(1, 0), x.hurts(2, 0)}, 2, 2, 3);
        doc.are("shames", new long[] {x.hurts(0, 1), x.hurts(1, 1), x.hurts(2, 1)}, 1, 0, 0);

        doc.says("-2: there are none such.");
        doc.all("no such", -2, x.hurts(3, 0), x.hurts(-1, 0), x.hurts(0, 2), x.hurts(0, -1));
    }

    private void cost() {
        doc.section("Promise 18: cost");
        doc.says("COST of a PERSON: card for each that he sends, hurt for each HURT.");
        CardsAtYule x = Due.land(YULE);
        doc.are("ten cards, two hurts; five and two; six and three", new long[] {x.cost(0), x.cost(1), x.cost(2)}, 40, 25, 33);

        doc.says("-2: there is none such.");
        doc.all("no such", -2, x.cost(3), x.cost(-1));
    }

    private void dearest() {
        doc.section("Promise 19: dearest");
        doc.says("The PERSON with the most COST, the first of several.");
        doc.is("0 has 40", Due.land(YULE).dearest(), 0);
        String two = "land years 1 card 1 hurt 0;person rule 0;person rule 15;person rule 15;";
        doc.is("1 and 2 have 1", Due.land(two + "pair 0 2 begun 0;pair 0 1 begun 0;").dearest(), 1);
        doc.is("2 has 1", Due.land(two + "pair 0 2 begun 0;").dearest(), 2);
        doc.is("nobody has any", Due.land(two).dearest(), 0);

        doc.says("NONE: there are no PEOPLE;");
        doc.is("a land of nobody", Due.land(LAND).dearest(), -1);

        doc.says("-2: there is no LAND.");
        doc.is("no land", new CardsAtYule().dearest(), -2);
    }

    private void last() {
        doc.section("Promise 20: last");
        doc.says("The last YEAR in which a PAIR sends any.");
        CardsAtYule x = Due.land(YULE + "person rule 0;pair 1 3 begun 0;");
        doc.are("pairs 0 and 1", new long[] {x.last(0), x.last(1)}, 4, 5);

        doc.says("NONE: in none;");
        doc.is("pair 2", x.last(2), -1);

        doc.says("-2: there is none such.");
        doc.all("no such", -2, x.last(3), x.last(-1));
    }

    private void over() {
        doc.section("Promise 21: over");
        doc.says("PAIRS that send none in the last YEAR.");
        doc.is("pair 0", Due.land(YULE).over(), 1);
        doc.is("two of three", Due.land(YULE + "person rule 0;pair 1 3 begun 0;").over(), 2);
        doc.is("none", Due.land(Edge.FULL_LAND).over(), 0);
        doc.is("no pairs", Due.land(LAND).over(), 0);

        doc.says("-2: there is no LAND.");
        doc.is("no land", new CardsAtYule().over(), -2);
    }

    private void poorest() {
        doc.section("Promise 22: poorest");
        doc.says("The YEAR with fewest cards that are sent, the first of several.");
        doc.is("4 each, then 1", Due.land(YULE).poorest(), 5);
        // side 0 sends always, side 1 in year 2, as it got one in year 0 and none in year 1
        String some = LAND + "person rule 15;person rule 4;pair 0 1 begun 0;lost 1 0 1;";
        doc.is("the first of one card", Due.land(some).poorest(), 0);
        doc.is("then in year 1", Due.land("land years 4 card 0 hurt 0;person rule 15;person rule 1;pair 0 1 begun 0;").poorest(),
            1);
        doc.is("nobody", Due.land(LAND).poorest(), 0);

        doc.says("-2: there is no LAND.");
        doc.is("no land", new CardsAtYule().poorest(), -2);
    }

    private void odds() {
        doc.section("Promise 23: odds");
        doc.says("By how many cards more side 0 of a PAIR sends than side 1 in all YEARS (below 0: fewer).");
        CardsAtYule x = Due.land(YULE + "person rule 15;pair 3 1 begun 0;dies 1 2;");
        // person 1 sends once by return and once first, and dies in year 2: 6 - 2 in the new pair
        doc.are("odds", new long[] {Due.land(YULE).odds(0), Due.land(YULE).odds(1), x.odds(2)}, 0, -1, 4);

        doc.says("-100: there is none such.");
        doc.all("no such", -100, x.odds(3), x.odds(-1), new CardsAtYule().odds(0));
    }

    private void streak() {
        doc.section("Promise 24: streak");
        doc.says("STREAK: the most YEARS in a row in which both sides of a PAIR get one (what 0), the first YEAR of the first "
            + "such (1; NONE: 0 of them).");
        CardsAtYule x = Due.land(YULE + "person rule 0;pair 1 3 begun 0;");
        doc.are("pair 0", new long[] {x.streak(0, 0), x.streak(0, 1)}, 2, 0);
        doc.are("pair 1", new long[] {x.streak(1, 0), x.streak(1, 1)}, 2, 2);
        doc.are("pair 2", new long[] {x.streak(2, 0), x.streak(2, 1)}, 0, -1);
        x = Due.land(LAND + "person rule 15;person rule 15;pair 0 1 begun 0;strike 2;");
        doc.are("the first of two", new long[] {x.streak(0, 0), x.streak(0, 1)}, 2, 0);

        doc.says("-2: there are none such.");
        doc.all("no such", -2, x.streak(1, 0), x.streak(-1, 0), x.streak(0, 2), x.streak(0, -1));
    }
}
