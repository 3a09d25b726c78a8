import java.io.IOException;

/** The document's terms, part by part, each with answers that are worked out by hand. */
public final class SaidTermsTest {
    private static final String LAND = "land years 5 card 3 hurt 2;";
    private static final String TWO = LAND + "person rule 0;person rule 0;";
    private static final String PAIR = TWO + "pair 0 1 begun 0;";

    private final Sentences doc = new Sentences();

    private SaidTermsTest() throws IOException {
    }

    public static void main(String[] args) throws IOException {
        SaidTermsTest test = new SaidTermsTest();
        test.doc.section("Terms");
        test.lines();
        test.numbersOfLines();
        test.sidesAndLaterLines();
        test.tokens();
        test.faults();
        test.slots();
        test.statesAndRules();
        test.firstCards();
        test.cardsByReturn();
        test.hurts();
        test.fates();
        test.oneLostCard();
        test.forgetting();
        test.ends();
        test.rows();
        test.draws();
        test.doc.end();
    }

    /** What land() answers to a text on a new object, with the fault and its place. */
    private static long[] told(String text) {
        CardsAtYule x = new CardsAtYule();
        return new long[] {Due.tell(x, text), x.fault(0), x.fault(1)};
    }

    private void good(String text, int lines) {
        doc.are(text, told(text), lines, 0, -1);
    }

    private void bad(String text, int fault, int place) {
        doc.are(text, told(text), -4, fault, place);
    }

    private static long[] sends(CardsAtYule x, int side) {
        long[] years = new long[x.count(2)];
        for (int year = 0; year < years.length; year++) {
            years[year] = x.sends(0, side, year);
        }
        return years;
    }

    private static long[] got(CardsAtYule x, int side) {
        long[] years = new long[x.count(2)];
        for (int year = 0; year < years.length; year++) {
            years[year] = x.got(0, side, year);
        }
        return years;
    }

    private static long[] states(CardsAtYule x) {
        long[] years = new long[x.count(2) + 1];
        for (int year = 0; year < years.length; year++) {
            years[year] = x.state(0, year);
        }
        return years;
    }

    private static CardsAtYule pairOf(int years, String rule0, String rule1, int begun, String more) {
        return Due.land("land years " + years + " card 3 hurt 2;person rule " + rule0 + ";person rule " + rule1
            + ";pair 0 1 begun " + begun + ";" + more);
    }

    private void lines() {
        doc.says("I. LAND: {LINE ;}.");
        good("", 0);
        good(LAND, 1);
        good(LAND + "strike 0;strike 1;", 3);
        bad("land years 5 card 3 hurt 2", 1, 26);
        bad(LAND + ";", 1, 27);
        bad(";", 1, 0);

        doc.says("LINE: land years N card N hurt N | person rule N {MARK} | pair P P begun N | lost Y P P | strike Y "
            + "| dies P Y | moves P Y.");
        good(PAIR + "lost 4 0 1;strike 3;dies 0 1;moves 1 1;", 8);
        good(LAND + "person rule 3 returns forgets 7;", 2);
        shape("", "land years 5 card 3 hurt 2;");
        shape(LAND, "person rule 3;");
        shape(TWO, "pair 0 1 begun 0;");
        shape(PAIR, "lost 4 0 1;");
        shape(PAIR, "strike 3;");
        shape(PAIR, "dies 0 1;");
        shape(PAIR, "moves 1 1;");

        doc.says("land is the first LINE and no other:");
        bad("person rule 0;" + LAND, 1, 0);
        bad("strike 0;", 1, 0);
        bad(LAND + LAND, 1, 27);
        bad(TWO + LAND, 1, TWO.length());
    }

    /** A line without one of its tokens has its fault where the next one stands. */
    private void shape(String ahead, String line) {
        String[] tokens = line.replace(";", " ;").split(" ");
        for (int left = 0; left < tokens.length - 1; left++) {
            StringBuilder text = new StringBuilder(ahead);
            int place = 0;
            for (int i = 0; i < tokens.length; i++) {
                if (i == left) {
                    place = text.length();
                } else {
                    text.append(tokens[i]).append(' ');
                }
            }
            // without one of two numbers that stand together, the second takes the first one's place
            boolean isTwo = Character.isDigit(tokens[left].charAt(0)) && Character.isDigit(tokens[left + 1].charAt(0));
            boolean isThree = isTwo && left + 2 < tokens.length && Character.isDigit(tokens[left + 2].charAt(0));
            bad(text.toString(), 1, place + (isThree ? 4 : isTwo ? 2 : 0));
        }
    }

    private void number(String ahead, String behind, int low, int high) {
        int lines = (int) (ahead + behind).chars().filter(sign -> sign == ';').count();
        good(ahead + low + behind, lines);
        good(ahead + high + behind, lines);
        bad(ahead + (high + 1) + behind, 2, ahead.length());
        if (low > 0) {
            bad(ahead + (low - 1) + behind, 2, ahead.length());
        }
    }

    private void numbersOfLines() {
        doc.says("years 1 .. 40, card, hurt 0 .. 99.");
        number("land years ", " card 0 hurt 0;", 1, 40);
        number("land years 1 card ", " hurt 0;", 0, 99);
        number("land years 1 card 0 hurt ", ";", 0, 99);
        CardsAtYule x = Due.land("land years 40 card 99 hurt 98;");
        doc.are("years, card, hurt", new long[] {x.count(2), x.count(3), x.count(4)}, 40, 99, 98);

        doc.says("rule 0 .. 15;");
        number(LAND + "person rule ", ";", 0, 15);
        doc.is("rule", Due.land(LAND + "person rule 13;").person(0, 0), 13);

        doc.says("MARK: returns | forgets N (0 .. 50; each once, in any order; not, 0 without).");
        number(LAND + "person rule 1 forgets ", ";", 0, 50);
        marks("", 0, 0);
        marks(" returns", 1, 0);
        marks(" forgets 50", 0, 50);
        marks(" returns forgets 9", 1, 9);
        marks(" forgets 9 returns", 1, 9);
        bad(LAND + "person rule 1 returns returns;", 1, 49);
        bad(LAND + "person rule 1 forgets 9 forgets 9;", 1, 51);
        bad(LAND + "person rule 1 forgets;", 1, 48);

        doc.says("pair: two unlike PEOPLE told ahead who are none yet;");
        good(TWO + "pair 1 0 begun 0;", 4);
        bad(TWO + "pair 1 1 begun 0;", 2, TWO.length() + 7);
        bad(TWO + "pair 0 2 begun 0;person rule 0;", 2, TWO.length() + 7);
        bad(TWO + "pair 2 0 begun 0;person rule 0;", 2, TWO.length() + 5);
        bad(PAIR + "pair 0 1 begun 0;", 2, PAIR.length() + 7);
        bad(PAIR + "pair 1 0 begun 0;", 2, PAIR.length() + 7);

        doc.says("begun 0 .. 15.");
        number(TWO + "pair 0 1 begun ", ";", 0, 15);
        doc.is("begun", Due.land(TWO + "pair 0 1 begun 11;").pair(0, 2), 11);

        doc.says("Y a YEAR 0 .. years less 1.");
        number(PAIR + "lost ", " 0 1;", 0, 4);
        number(PAIR + "strike ", ";", 0, 4);
        number(PAIR + "dies 0 ", ";", 0, 4);
        number(PAIR + "moves 0 ", ";", 0, 4);
    }

    private void marks(String marks, int returns, int forgets) {
        CardsAtYule x = Due.land(LAND + "person rule 1" + marks + ";person rule 2;");
        doc.are("the one with" + marks, new long[] {x.person(0, 1), x.person(0, 2)}, returns, forgets);
        doc.are("the one behind" + marks, new long[] {x.person(1, 1), x.person(1, 2)}, 0, 0);
    }

    private void sidesAndLaterLines() {
        doc.says("lost: the first one's card to the other, who are a PAIR.");
        CardsAtYule x = pairOf(3, "15", "15", 0, "lost 1 1 0;");
        doc.are("it does not come to 0", got(x, 0), 1, 0, 1);
        doc.are("it comes to 1", got(x, 1), 1, 1, 1);
        bad(TWO + "lost 0 0 1;pair 0 1 begun 0;", 2, TWO.length() + 9);
        bad(PAIR + "lost 0 0 0;", 2, PAIR.length() + 9);
        bad(PAIR + "person rule 0;lost 0 0 2;", 2, PAIR.length() + 23);

        doc.says("dies, moves: a later LINE of that PERSON strikes.");
        x = Due.land(TWO + "dies 0 3;dies 1 2;dies 0 1;moves 1 0;moves 0 2;moves 1 4;");
        doc.are("deaths", new long[] {x.person(0, 3), x.person(1, 3)}, 1, 2);
        doc.are("moves", new long[] {x.person(0, 4), x.person(1, 4)}, 2, 4);

        doc.says("PEOPLE 0 .. 9, PAIRS 0 .. 15 are numbered as they stand;");
        StringBuilder people = new StringBuilder();
        for (int i = 0; i < 10; i++) {
            people.append("person rule ").append(i).append(';');
        }
        x = Due.land(LAND + people + Edge.pairsOfTen(16));
        for (int i = 0; i < 10; i++) {
            doc.is("person " + i, x.person(i, 0), i);
        }
        // 0 with 1 .. 9 are the first nine, 1 with 2 .. 8 the other seven
        for (int i = 0; i < 16; i++) {
            doc.are("pair " + i, new long[] {x.pair(i, 0), x.pair(i, 1)}, i < 9 ? 0 : 1, i < 9 ? i + 1 : i - 7);
        }

        doc.says("the first told of a PAIR is side 0, the other side 1.");
        x = Due.land(LAND + "person rule 15;person rule 0;pair 1 0 begun 0;");
        doc.are("its people", new long[] {x.pair(0, 0), x.pair(0, 1)}, 1, 0);
        doc.are("side 0, person 1, sends nothing", sends(x, 0), 0, 0, 0, 0, 0);
        doc.are("side 1, person 0, sends", sends(x, 1), 1, 1, 1, 1, 1);
    }

    private void tokens() {
        doc.says("TOKENS, blanks (32, 10) aside, the longest: words (a .. z), numbers (digits), the sign ; .");
        good("land years 5card 3hurt 2;person rule 0;", 2);
        good("land\nyears 5\n \ncard 3 hurt 2 \n; ", 1);
        good("  \n", 0);
        good("land years 005 card 03 hurt 2;", 1);
        bad("landyears 5 card 3 hurt 2;", 1, 0);
        bad("la nd years 5 card 3 hurt 2;", 1, 0);
        bad("land years 4 0 card 3 hurt 2;", 1, 13);
        for (int sign : new int[] {0, 9, 13, ' ' - 1, '!', '-', '0' - 1, '9' + 1, '<', 'L', 'a' - 1, 'z' + 1, 127, 160, 255}) {
            bad("land " + (char) sign + "years 5 card 3 hurt 2;", 1, 5);
        }
    }

    private void faults() {
        doc.says("FAULTS, the first by its place (a TOKEN's first byte; the end's), of one place the least:");
        bad("land years 41 card 100 hurt ?", 2, 11);
        bad("land years 5 card 100 hurt ?", 2, 18);
        bad("land years 5 card 3 hurt ?", 1, 25);
        bad("land years 5 card 3 hurt 22", 1, 27);
        bad("land years 5 card 3 hurt 22 \n ", 1, 30);
        bad("land yearss 5", 1, 5);
        bad("land 41", 1, 5);

        doc.says("1 a TOKEN that is none, or can't stand there (land behind the first LINE, another word ahead of it; "
            + "a MARK that is there already).");
        bad(LAND + "%", 1, 27);
        bad(LAND + "begun 0;", 1, 27);
        bad(LAND + "7;", 1, 27);
        bad(LAND + "land years 5 card 3 hurt 2;", 1, 27);
        bad("pair 0 1 begun 0;", 1, 0);
        bad(LAND + "person rule 1 returns forgets 3 returns;", 1, 59);

        doc.says("2 a number out of its bounds, not as said (of two PEOPLE at the second).");
        bad("land years 0 card 3 hurt 2;", 2, 11);
        bad("land years 99999999999999999999 card 3 hurt 2;", 2, 11);
        bad("land years 4294967297 card 3 hurt 2;", 2, 11);
        bad(PAIR + "dies 2 0;", 2, PAIR.length() + 5);
        bad(PAIR + "moves 2 0;", 2, PAIR.length() + 6);
        bad(PAIR + "lost 0 2 0;", 2, PAIR.length() + 7);
        bad(PAIR + "lost 0 1 1;", 2, PAIR.length() + 9);
        bad(PAIR + "pair 1 0 begun 16;", 2, PAIR.length() + 7);

        doc.says("3 an 11th person, 17th pair, at its word.");
        String ten = LAND + "person rule 0;".repeat(10);
        good(ten + Edge.pairsOfTen(16), 27);
        bad(ten + " person rule 99;", 3, ten.length() + 1);
        String full = ten + Edge.pairsOfTen(16);
        bad(full + " pair 0 0 begun 99;", 3, full.length() + 1);
    }

    private void slots() {
        doc.says("SLOTS 0 .. 3 have rows of numbers of 1, 2, 4 or 8 bytes (WIDTH 0 .. 3), at most 60, or nothing.");
        CardsAtYule x = Due.land("land years 1 card 0 hurt 0;person rule 0;person rule 0;pair 0 1 begun 0;");
        doc.are("nothing at first", new long[] {x.write(0, 0, 0), x.write(3, 0, 0), x.write(4, 0, 0)}, -6, -6, -2);
        for (int width = 0; width < 4; width++) {
            doc.is("a row of width " + width, x.row(width, width, 60), 0);
            // the number with one byte more than the row's is nothing in it, but for the widest
            long beyond = width < 3 ? 1L << (8 << width) : 0L;
            x.write(width, 0, beyond);
            doc.is("its bytes are cut off", x.odd(width, 0), -1);
            x.write(width, 0, 1L << ((8 << width) - 1));
            doc.is("its highest bit stands", x.odd(width, 0), -2);
        }
        doc.are("61, another width", new long[] {x.row(0, 0, 61), x.row(0, 4, 1)}, -2, -2);
    }

    private void statesAndRules() {
        doc.says("II. STATE of a PAIR: 1, if side 0 got one in the last YEAR, and 2, if in the one ahead of it, and 4, 8 "
            + "likewise of side 1.");
        doc.are("side 0 gets one each year but 1", states(pairOf(4, "0", "15", 0, "lost 1 1 0;")), 0, 1, 2, 1, 3);
        doc.are("side 1 gets one each year but 1", states(pairOf(4, "15", "0", 0, "lost 1 0 1;")), 0, 4, 8, 4, 12);
        doc.are("none gets any more", states(pairOf(3, "0", "0", 15, "")), 15, 10, 0, 0);
        doc.are("begun by 1", states(pairOf(2, "0", "0", 1, "")), 1, 2, 0);
        doc.are("begun by 4", states(pairOf(2, "0", "0", 4, "")), 4, 8, 0);

        doc.says("RULE: bit 0: one who got none in both sends, 1: who got one in the last YEAR alone, 2: in the one ahead "
            + "alone, 3: in both.");
        for (int bit = 0; bit < 4; bit++) {
            for (int state = 0; state < 4; state++) {
                String rule = String.valueOf(1 << bit);
                doc.is("rule " + rule + " of side 0 begun by " + state, pairOf(1, rule, "0", state, "").sends(0, 0, 0),
                    state == bit ? 1 : 0);
                doc.is("rule " + rule + " of side 1 begun by " + 4 * state,
                    pairOf(1, "0", rule, 4 * state, "").sends(0, 1, 0), state == bit ? 1 : 0);
            }
        }
    }

    private void firstCards() {
        doc.says("YEAR: first each side sends, if its RULE does so.");
        CardsAtYule x = pairOf(3, "10", "5", 0, "");
        // side 1 sends to who sent none last year, side 0 to who sent one
        doc.are("side 0", sends(x, 0), 0, 1, 1);
        doc.are("side 1", sends(x, 1), 1, 1, 0);

        doc.says("A card comes, but not if the YEAR is one of strike, the card is told to be lost, or who should get it is "
            + "dead or moves in that YEAR.");
        x = pairOf(6, "15", "15", 0, "lost 1 0 1;strike 2;moves 1 3;dies 1 5;");
        doc.are("side 0 sends", sends(x, 0), 1, 1, 1, 1, 1, 1);
        doc.are("side 1 gets", got(x, 1), 1, 0, 0, 0, 1, 0);
        doc.are("side 1 sends", sends(x, 1), 1, 1, 1, 1, 1, 0);
        doc.are("side 0 gets", got(x, 0), 1, 1, 0, 1, 1, 0);
    }

    private void cardsByReturn() {
        doc.says("Then by return each side that sent none sends, if its PERSON goes by return and one came to it first; it "
            + "comes or not likewise.");
        CardsAtYule x = pairOf(7, "15", "0 returns", 0, "lost 1 0 1;lost 2 1 0;strike 3;moves 0 4;moves 1 5;dies 0 6;");
        doc.are("side 1 sends by return", sends(x, 1), 2, 0, 2, 0, 2, 0, 0);
        doc.are("side 0 gets", got(x, 0), 1, 0, 0, 0, 0, 0, 0);
        x = pairOf(2, "15 returns", "15 returns", 0, "");
        doc.are("who sent first", sends(x, 1), 1, 1);
        x = pairOf(2, "0 returns", "0 returns", 15, "");
        doc.are("none came first", sends(x, 1), 0, 0);
        x = pairOf(2, "0 returns", "15", 0, "");
        doc.are("side 0 by return", sends(x, 0), 2, 2);
        x = pairOf(2, "0", "15", 0, "");
        doc.are("who does not go by return", sends(x, 0), 0, 0);

        doc.says("Who is dead (from the YEAR of death on) sends nothing.");
        x = pairOf(5, "15", "15", 0, "dies 0 3;");
        doc.are("the dead", sends(x, 0), 1, 1, 1, 0, 0);
        doc.are("the other", sends(x, 1), 1, 1, 1, 1, 1);
        doc.are("dead from the first year on", sends(pairOf(2, "15", "15", 0, "dies 1 0;"), 1), 0, 0);

        doc.says("Got: one came, first or by return.");
        x = pairOf(3, "15", "0 returns", 0, "lost 2 1 0;");
        doc.are("by return", got(x, 0), 1, 1, 0);
        doc.are("first", got(x, 1), 1, 1, 1);
    }

    private void hurts() {
        doc.says("HURT: one sent and got none; SHAME: one got and sent none; in a YEAR, of a PAIR.");
        // person 0 sends to 1 and gets none, gets of 2 and sends none: neither makes up for the other
        CardsAtYule x = Due.land("land years 3 card 0 hurt 0;person rule 9;person rule 0;person rule 15;"
            + "pair 0 1 begun 0;pair 2 0 begun 0;lost 0 0 2;");
        // to 2: year 0 sends (lost), got one: then 1 alone: not; then both: sends
        doc.are("side 1 of pair 1", new long[] {x.sends(1, 1, 0), x.sends(1, 1, 1), x.sends(1, 1, 2)}, 1, 0, 1);
        doc.are("person 0", new long[] {x.hurts(0, 0), x.hurts(0, 1)}, 3, 1);
        doc.are("person 1", new long[] {x.hurts(1, 0), x.hurts(1, 1)}, 0, 3);
        doc.are("person 2", new long[] {x.hurts(2, 0), x.hurts(2, 1)}, 2, 0);
    }

    private static long[] fate(int rule, int other, int state) {
        CardsAtYule x = new CardsAtYule();
        return new long[] {x.fate(rule, other, state, 0), x.fate(rule, other, state, 1), x.fate(rule, other, state, 2),
            x.fate(rule, other, state, 3)};
    }

    private void fates() {
        doc.says("III. FATE: RULES alone, nothing lost, no strikes, deaths, moves:");
        String mishaps = "lost 0 0 1;strike 1;dies 0 2;moves 1 0;dies 1 3;";
        CardsAtYule x = pairOf(5, "15", "15", 0, mishaps);
        doc.are("of a pair", new long[] {x.goes(0, 0), x.goes(0, 1), x.goes(0, 2), x.goes(0, 3)}, 2, 1, 2, 1);

        doc.says("STATES go on year by year till one comes again: from its first coming on to the next is the ROUND.");
        doc.are("1, 6, 9, 6", fate(10, 10, 1), 1, 2, 2, 2);
        doc.are("6, 9, 6", fate(10, 10, 6), 0, 2, 2, 2);
        doc.are("15, 10, 0, 0", fate(0, 0, 15), 2, 1, 0, 0);
        // got in the last year: no; else yes, on both sides: 0, 5, 10, 5
        doc.are("0, 5, 10, 5", fate(5, 5, 0), 1, 2, 2, 2);

        doc.says("It dies, if no card is sent in the ROUND; lasts, if both send in each year of it; else neither.");
        doc.are("it dies, though one is sent ahead", fate(0, 8, 12), 3, 1, 0, 0);
        doc.are("it lasts, though by return", fate(15, 16, 0), 2, 1, 2, 1);
        doc.are("one alone sends", fate(15, 0, 0), 2, 1, 1, 2);
        doc.are("both send in every other year", fate(5, 5, 5), 0, 2, 2, 2);
    }

    private void oneLostCard() {
        doc.says("ONE lost card: that year of the ROUND goes by with it (also by return it does not come), then all as "
            + "ever.");
        CardsAtYule x = pairOf(1, "10", "10", 5, "");
        // 15, then 11, 6, 9, 6
        doc.are("it goes round", new long[] {x.lost(0, 0, 0), x.lost(0, 1, 0), x.back(0, 0)}, 2, 2, 0);
        x = pairOf(1, "10", "10 returns", 5, "");
        doc.are("by return it lasts", new long[] {x.lost(0, 0, 0), x.back(0, 0)}, 1, 1);
        x = pairOf(1, "8", "0 returns", 3, "");
        doc.are("lost by return it dies", new long[] {x.goes(0, 3), x.lost(0, 1, 0), x.back(0, 1)}, 1, 0, 0);
    }

    private static long[] chances(CardsAtYule x, int n) {
        return new long[] {x.alive(0, n, 0), x.alive(0, n, 1), x.both(0, n, 0), x.both(0, n, 1), x.mean(0, n, 0),
            x.mean(0, n, 1)};
    }

    private void forgetting() {
        doc.says("IV. By RULES alone, but each PERSON forgets so often in a hundred: each time that he would send, first or "
            + "by return, each apart;");
        String mishaps = "lost 0 0 1;strike 0;dies 1 0;";
        CardsAtYule x = pairOf(1, "15 forgets 50", "0 returns forgets 20", 0, mishaps);
        doc.are("year 1", chances(x, 1), 1, 2, 2, 5, 9, 10);
        doc.are("year 2", chances(x, 2), 1, 2, 2, 5, 9, 5);
        x = pairOf(1, "15 forgets 50", "15 forgets 20", 0, "");
        doc.are("each apart", chances(x, 1), 9, 10, 2, 5, 13, 10);

        doc.says("from how the PAIR was begun, year 1 the first.");
        doc.are("begun by 5", chances(pairOf(1, "10 forgets 50", "10", 5, ""), 1), 1, 1, 1, 2, 3, 2);
        doc.are("begun by 10", chances(pairOf(1, "10 forgets 50", "10", 10, ""), 1), 0, 1, 0, 1, 0, 1);
        // year 2: side 1 got one or not, each by half; side 0 would send, and forgets by half
        doc.are("its second year", chances(pairOf(1, "10 forgets 50", "10", 5, ""), 2), 3, 4, 1, 4, 5, 2);

        doc.says("Who forgot first may send by return.");
        doc.are("both send", chances(pairOf(1, "15", "15 returns forgets 50", 0, ""), 1), 1, 1, 3, 4, 7, 4);

        doc.says("FRACTIONS are told in lowest terms (0 / 1).");
        doc.are("none", chances(pairOf(1, "0", "0", 0, ""), 3), 0, 1, 0, 1, 0, 1);
        doc.are("all", chances(pairOf(1, "15", "15", 0, ""), 3), 1, 1, 1, 1, 6, 1);
    }

    private void ends() {
        doc.says("V. From how a PAIR was begun, nothing lost, no strikes, deaths, moves, nobody forgets:");
        String mishaps = "lost 0 1 0;strike 1;dies 0 0;moves 0 1;dies 1 1;";
        CardsAtYule x = pairOf(2, "3", "2 forgets 50", 4, mishaps);
        // side 1 sends to who sent one last year alone: in year 2 again, if side 0 sent none in year 0
        doc.are("keeping", new long[] {x.keeping(0, 0, 1), x.keeping(0, 0, 2), x.keeping(0, 0, 3)}, 1, -1, 2);

        doc.says("one side sends first or not as it will (never by return), the other by its RULE.");
        x = pairOf(1, "0 returns", "15", 0, "");
        doc.are("never by return", new long[] {x.keeping(0, 0, 1), x.pen(0, 0, 1, 0)}, 1, 1);
        x = pairOf(1, "15", "0 returns", 0, "");
        doc.are("the other by return", new long[] {x.keeping(0, 0, 1), x.keeping(0, 0, 2)}, 1, 1);
        doc.is("its rule never sends first", pairOf(1, "0", "15", 0, "").keeping(0, 1, 1), -1);

        doc.says("END: behind the n years it dies by FATE of both RULES, the one of the side that does as it will being 0 "
            + "without return.");
        // side 0 sends always by its rule, but as it will it stops: side 1 sends once more and stops too
        x = pairOf(1, "15 returns", "10", 5, "");
        doc.are("in a year", new long[] {x.ending(0, 0, 1), x.step(0, 0, 1, 0)}, 5, 0);
        doc.is("who always sends can't be stopped", pairOf(1, "0", "15", 0, "").ending(0, 0, 12), -1);

        doc.says("COST of both: card for each card, hurt for each HURT.");
        doc.is("a card of 3 and a hurt of 2", pairOf(1, "0", "10", 4, "").ending(0, 0, 1), 5);
        // side 1 sends in year 1, or side 0 in year 0 to keep it from that: a card and a hurt either way
        doc.is("the hurt of either", pairOf(1, "0", "4", 4, "").ending(0, 0, 2), 5);
        doc.is("two cards, no hurt", Due.land("land years 1 card 1 hurt 9;person rule 0;person rule 10;pair 0 1 begun 5;")
            .ending(0, 0, 1), 2);
    }

    private void rows() {
        doc.says("Rows: the least (0 not, 1 sends; year 0 first).");
        // both send in year 2 if side 0 sent in one of the two years ahead: rather in year 1
        CardsAtYule x = pairOf(1, "0", "14", 0, "");
        doc.are("keeping", new long[] {x.keeping(0, 0, 3), x.pen(0, 0, 3, 0), x.pen(0, 0, 3, 1), x.pen(0, 0, 3, 2)},
            2, 0, 1, 1);
        x = Due.land("land years 1 card 0 hurt 0;person rule 0;person rule 10;pair 0 1 begun 5;");
        doc.are("ending at no cost", new long[] {x.ending(0, 0, 2), x.step(0, 0, 2, 0), x.step(0, 0, 2, 1)}, 0, 0, 0);
    }

    private void draws() {
        doc.says("VI. DRAWS: x becomes (1103515245 x + 12345) modulo 2,147,483,648 (at first it is the seed); a draw: "
            + "x / 65536, cut, modulo 100.");
        // seed 0: 12345, so the draw is 0; seed 1: 1103527590, 16838, so it is 38; seed 2: 59559187, 908: 8
        doc.is("0 is below 1", pairOf(1, "15 forgets 1", "0", 0, "").life(0, 2), 1);
        doc.is("38 is below 39", pairOf(1, "15 forgets 39", "0", 0, "").life(1, 2), 1);
        doc.is("38 is not below 38", pairOf(1, "15 forgets 38", "0", 0, "").life(1, 2), 0);
        doc.is("8 is below 9", pairOf(1, "15 forgets 9", "0", 0, "").life(2, 2), 1);
        doc.is("8 is not below 8", pairOf(1, "15 forgets 8", "0", 0, "").life(2, 2), 0);

        doc.says("LIFE: YEAR by YEAR, PAIR by PAIR, side 0, then side 1, each that would send first a draw: below forgets it "
            + "does not; then likewise by return.");
        lifeInOrder();
    }

    /** From seed 5 the draws are 55, 57, 16, 77, 93, 64, 4, 67; from 3: 47, 7, 65; from 2: 8, 17, 39. */
    private void lifeInOrder() {
        for (int forgetful = 0; forgetful < 4; forgetful++) {
            StringBuilder people = new StringBuilder();
            for (int person = 0; person < 4; person++) {
                people.append("person rule 15").append(person == forgetful ? " forgets 20;" : ";");
            }
            CardsAtYule x = Due.land("land years 2 card 0 hurt 0;" + people + "pair 0 1 begun 0;pair 2 3 begun 0;");
            doc.are("the third and the seventh are of side 0 of pair 1, not of " + forgetful,
                new long[] {x.life(5, 2), x.life(5, 0)}, forgetful == 2 ? 2 : 0, forgetful == 2 ? 6 : 8);
        }
        CardsAtYule x = pairOf(3, "0", "15 forgets 50", 0, "");
        doc.are("who would not send draws nothing", new long[] {x.life(5, 2), x.life(5, 0), x.lives(5, 0)}, 1, 2, 1);
        x = pairOf(1, "0 returns forgets 10", "15", 0, "");
        doc.are("by return behind both", new long[] {x.life(3, 2), x.life(3, 0)}, 1, 1);
        x = pairOf(1, "15", "15 returns forgets 50", 0, "");
        doc.are("forgotten first, sent by return", new long[] {x.life(3, 2), x.life(3, 0)}, 1, 2);
        doc.are("forgotten twice", new long[] {x.life(2, 2), x.life(2, 0)}, 2, 1);
        x = Due.land("land years 1 card 0 hurt 0;person rule 15;person rule 0 returns;person rule 15 forgets 20;"
            + "pair 0 1 begun 0;pair 2 1 begun 0;");
        doc.are("by return ahead of the next pair", new long[] {x.life(5, 2), x.life(5, 0), x.lives(5, 1)}, 1, 2, -1);
    }
}
