import java.io.IOException;

/** Promises 48 to 64, part by part, with answers worked out by hand; the lives of YULE were drawn by a separate program. */
public final class SaidSeenTest {
    /** Pair 0: side 0 gets 111100, side 1 110100. Pair 1: side 0 gets 111101, side 1 101100. */
    private static final String YULE = "land years 6 card 3 hurt 5;"
        + "person rule 10;person rule 10 returns;person rule 14 forgets 25;"
        + "pair 0 1 begun 5;pair 0 2 begun 5;lost 2 0 1;strike 4;moves 2 1;";

    private final Sentences doc = new Sentences();

    private SaidSeenTest() throws IOException {
    }

    public static void main(String[] args) throws IOException {
        SaidSeenTest test = new SaidSeenTest();
        test.fits();
        test.which();
        test.begun();
        test.odd();
        test.life();
        test.lives();
        test.lasts();
        test.train();
        test.begin();
        test.lose();
        test.calls();
        test.count();
        test.keep();
        test.on();
        test.row();
        test.write();
        test.paste();
        test.doc.endOfPromises(48, 64);
    }

    private static CardsAtYule pairOf(String rule0, String rule1, int begun, String more) {
        return Due.land("land years 2 card 3 hurt 2;person rule " + rule0 + ";person rule " + rule1 + ";pair 0 1 begun "
            + begun + ";" + more);
    }

    private static int fits(CardsAtYule x, long... numbers) {
        Due.fill(x, 0, 0, numbers);
        return x.fits(0, 0);
    }

    private static long which(CardsAtYule x, int side, long... numbers) {
        Due.fill(x, 0, 0, numbers);
        return x.which(0, 0, side);
    }

    private static int begun(CardsAtYule x, long... numbers) {
        Due.fill(x, 0, 0, numbers);
        return x.begun(0, 0);
    }

    private static int odd(CardsAtYule x, long... numbers) {
        Due.fill(x, 0, 0, numbers);
        return x.odd(0, 0);
    }

    private void fits() {
        doc.section("Promise 48: fits");
        doc.says("SEEN: a SLOT's row, three numbers each: a YEAR, 1 or 0: the first side of a PAIR got one, the other: in how "
            + "many ways two RULES (32 each) may be theirs, from how it was begun, all else as told.");
        CardsAtYule x = pairOf("0", "0", 5, "");
        // both first 16 * 16; one first, the other, of 8 by return alone, back: twice 16 * 8
        doc.is("both got one", fits(x, 0, 1, 1), 512);
        // one first, the other neither first nor by return
        doc.are("one got one", new long[] {fits(x, 0, 1, 0), fits(x, 0, 0, 1)}, 128, 128);
        doc.are("none got one", new long[] {fits(x, 0, 0, 0), fits(x), fits(x, 0, 0, 0, 0, 1, 0)}, 256, 1024, 0);
        doc.is("each way comes to one of four in the second year", fits(x, 1, 0, 0) + fits(x, 1, 0, 1) + fits(x, 1, 1, 0) + fits(x, 1, 1, 1),
            1024);
        x = pairOf("0", "0", 5, "lost 0 0 1;strike 1;");
        doc.are("lost to side 1", new long[] {fits(x, 0, 1, 0), fits(x, 0, 0, 0), fits(x, 0, 0, 1)}, 512, 512, 0);
        doc.are("a strike", new long[] {fits(x, 1, 0, 0), fits(x, 1, 1, 0)}, 1024, 0);
        x = pairOf("0", "0", 5, "dies 1 0;");
        doc.are("dead", new long[] {fits(x, 0, 0, 0), fits(x, 0, 0, 1)}, 1024, 0);

        doc.says("-2: there is no such SLOT, PAIR, a number is not so (asked last), not three each;");
        Due.fill(x, 1, 1, 0, 0, 0);
        doc.all("no such", -2, x.fits(4, 0), x.fits(-1, 0), x.fits(1, 1), x.fits(1, -1), x.fits(2, 1));
        doc.all("not so", -2, fits(x, 2, 0, 0), fits(x, -1, 0, 0), fits(x, 0, 2, 0), fits(x, 0, -1, 0), fits(x, 0, 0, 2),
            fits(x, 0, 0, -1), fits(x, 0, 0, 0, 2, 0, 0));
        doc.all("not three each", -2, fits(x, 0), fits(x, 0, 0), fits(x, 0, 0, 0, 0));

        doc.says("-6: it has nothing.");
        doc.all("nothing", -6, x.fits(2, 0), x.fits(3, 0));
    }

    private void which() {
        doc.section("Promise 49: which");
        doc.says("RULES (32) that a side may have by any of these, as bits (from RULE 0).");
        CardsAtYule x = pairOf("0", "0", 5, "");
        doc.are("side 1 alone got one", new long[] {which(x, 0, 0, 0, 1), which(x, 1, 0, 0, 1)}, 0xCCCCCCCCL, 0x3333L);
        doc.are("both got one", new long[] {which(x, 0, 0, 1, 1), which(x, 1, 0, 1, 1)}, 0xFFFFCCCCL, 0xFFFFCCCCL);
        doc.are("anything", new long[] {which(x, 0), which(x, 1)}, 0xFFFFFFFFL, 0xFFFFFFFFL);
        doc.is("nothing", which(x, 0, 0, 0, 1, 0, 1, 1), 0);

        doc.says("-2, -6 likewise, no such side.");
        doc.all("no such side", -2, x.which(0, 0, 2), x.which(0, 0, -1), x.which(1, 0, 2));
        doc.all("no such", -2, x.which(4, 0, 0), x.which(-1, 0, 0), x.which(0, 1, 0), x.which(0, -1, 0), x.which(1, 1, 0),
            which(x, 0, 2, 0, 0), which(x, 0, 0, 2, 0), which(x, 0, 0, 0, -1), which(x, 0, 0));
        doc.is("nothing there", x.which(1, 0, 0), -6);
    }

    private void begun() {
        doc.section("Promise 50: begun");
        doc.says("STATES by which it may have been begun, its RULES as told, as bits.");
        CardsAtYule x = pairOf("10", "10", 0, "");
        // side 1 got one last year and side 0 none: 4, 6, 12, 14
        doc.is("side 0 alone got one", begun(x, 0, 1, 0), 1 << 4 | 1 << 6 | 1 << 12 | 1 << 14);
        doc.is("and side 1 alone then", begun(x, 0, 1, 0, 1, 0, 1), 1 << 4 | 1 << 6 | 1 << 12 | 1 << 14);
        doc.is("and side 0 alone again", begun(x, 0, 1, 0, 1, 1, 0), 0);
        doc.is("anything", begun(x), 65535);
        doc.is("by return", begun(pairOf("10", "0 returns", 0, ""), 0, 1, 1), 0xAAAA);
        doc.is("with a card lost", begun(pairOf("10", "10", 0, "lost 0 1 0;"), 0, 0, 1), 0xAAAA);

        doc.says("-2, -6 likewise.");
        doc.all("no such", -2, x.begun(4, 0), x.begun(-1, 0), x.begun(0, 1), x.begun(0, -1), x.begun(1, 1), begun(x, 2, 0, 0),
            begun(x, 0, 2, 0), begun(x, 0, 0, -1), begun(x, 0));
        doc.is("nothing there", x.begun(1, 0), -6);
    }

    private void odd() {
        doc.section("Promise 51: odd");
        doc.says("The first of them (from 0) that is not so as all goes;");
        CardsAtYule x = Due.land(YULE);
        doc.are("the first, the fourth", new long[] {odd(x, 0, 1, 0, 4, 0, 1), odd(x, 0, 1, 1, 2, 1, 0, 3, 1, 1, 4, 0, 1)}, 0, 3);
        doc.are("either side", new long[] {odd(x, 5, 0, 0, 2, 0, 0), odd(x, 5, 0, 0, 2, 1, 1)}, 1, 1);

        doc.says("NONE: all are.");
        doc.are("as it goes", new long[] {odd(x, 4, 0, 0, 2, 1, 0, 2, 1, 0, 0, 1, 1), odd(x)}, -1, -1);

        doc.says("-2, -6 likewise.");
        doc.all("no such", -2, x.odd(4, 0), x.odd(-1, 0), x.odd(0, 2), x.odd(0, -1), x.odd(1, 2), odd(x, 6, 0, 0),
            odd(x, 0, 2, 0), odd(x, 0, 1, 0, 0, 0, -1), odd(x, 0));
        doc.is("nothing there", x.odd(1, 0), -6);
    }

    private void life() {
        doc.section("Promise 52: life");
        doc.says("LIFE drawn (VI) from a seed (0 .. 2,000,000,000), what 0: cards that are sent in all YEARS, 1: PAIRS that send "
            + "none in the last one, 2: how often one forgets.");
        CardsAtYule x = Due.land(YULE);
        doc.are("seed 9, nobody forgets", new long[] {x.life(9, 0), x.life(9, 1), x.life(9, 2)}, 21, 1, 0);
        doc.are("who is dead", new long[] {pairOf("15", "15", 0, "dies 0 1;").life(0, 0),
            pairOf("15", "15", 0, "dies 0 0;dies 1 1;").life(0, 1)}, 3, 1);
        doc.are("seed 2", new long[] {x.life(2, 0), x.life(2, 1), x.life(2, 2)}, 16, 2, 2);
        doc.are("seed 3", new long[] {x.life(3, 0), x.life(3, 1), x.life(3, 2)}, 17, 2, 3);
        // its x is 216,544,313, then 467,520,126, so the draws are 4 and 33
        doc.are("the highest seed", new long[] {pairOf("15 forgets 33", "0", 0, "").life(2_000_000_000, 0),
            pairOf("15 forgets 34", "0", 0, "").life(2_000_000_000, 0)}, 1, 0);

        doc.says("-2: there are none such, no LAND.");
        doc.all("no such", -2, x.life(-1, 0), x.life(2_000_000_001, 0), x.life(0, 3), x.life(0, -1),
            new CardsAtYule().life(0, 0));
    }

    private void lives() {
        doc.section("Promise 53: lives");
        doc.says("The last YEAR in which a PAIR sends any by it.");
        CardsAtYule x = Due.land(YULE + "person rule 0;pair 3 1 begun 0;");
        doc.are("seeds 1 and 2", new long[] {x.lives(1, 0), x.lives(1, 1), x.lives(2, 0), x.lives(2, 1)}, 4, 5, 4, 4);

        doc.says("NONE: in none;");
        doc.is("who never send", x.lives(1, 2), -1);
        // from seed 2 the draws are 8 and 17
        doc.is("who always forgets", pairOf("15 forgets 18", "0", 0, "").lives(2, 0), -1);

        doc.says("-2: there are none such.");
        doc.all("no such", -2, x.lives(-1, 0), x.lives(2_000_000_001, 0), x.lives(0, 3), x.lives(0, -1));
    }

    private void lasts() {
        doc.section("Promise 54: lasts");
        doc.says("Of n (1 .. 20) such from seeds, the seed and 1, .., in how many a PAIR sends any in the last YEAR.");
        CardsAtYule x = Due.land(YULE);
        // pair 1 does from 0, 1, 4, 5, 6, 7, 9, 10 and 11, not from 2, 3 and 8
        doc.are("pair 1", new long[] {x.lasts(0, 1, 1), x.lasts(0, 4, 1), x.lasts(0, 12, 1), x.lasts(2, 2, 1), x.lasts(8, 2, 1)},
            1, 2, 9, 0, 1);
        doc.is("pair 0", x.lasts(0, 12, 0), 0);
        CardsAtYule y = pairOf("15", "0", 0, "");
        doc.are("all of 20", new long[] {y.lasts(0, 20, 0), y.lasts(2_000_000_000, 20, 0)}, 20, 20);

        doc.says("-2: there are none such.");
        doc.all("no such", -2, x.lasts(-1, 1, 0), x.lasts(2_000_000_001, 1, 0), x.lasts(0, 0, 0), x.lasts(0, 21, 0),
            x.lasts(0, 1, 2), x.lasts(0, 1, -1));
    }

    private void train() {
        doc.section("Promise 55: train");
        doc.says("What 0 RULE (0 .. 15), 1 by return (0, 1), 2 forgets (0 .. 50) of a PERSON is n from now on: what it was.");
        CardsAtYule x = Due.land(YULE);
        doc.are("what it was", new long[] {x.train(2, 0, 0), x.train(2, 1, 1), x.train(2, 2, 50)}, 14, 0, 25);
        doc.are("what it is", new long[] {x.person(2, 0), x.person(2, 1), x.person(2, 2)}, 0, 1, 50);
        doc.are("in year 0, in year 5", new long[] {x.sends(1, 1, 0), x.sends(1, 1, 5)}, 2, 0);
        doc.are("again", new long[] {x.train(2, 0, 15), x.train(2, 1, 0), x.train(2, 2, 0), x.train(2, 0, 15)}, 0, 1, 50, 15);
        doc.is("others stay", x.person(1, 1), 1);

        doc.says("-2: there are none such.");
        doc.all("no such", -2, x.train(3, 0, 0), x.train(-1, 0, 0), x.train(0, 3, 0), x.train(0, -1, 0), x.train(0, 0, 16),
            x.train(0, 0, -1), x.train(0, 1, 2), x.train(0, 1, -1), x.train(0, 2, 51), x.train(0, 2, -1));
        doc.are("it stays", new long[] {x.person(0, 0), x.person(0, 1), x.person(0, 2)}, 10, 0, 0);
    }

    private void begin() {
        doc.section("Promise 56: begin");
        doc.says("A PAIR was begun by a STATE from now on: by which.");
        CardsAtYule x = Due.land(YULE);
        doc.are("by which", new long[] {x.begin(0, 0), x.begin(0, 15), x.begin(0, 10)}, 5, 0, 15);
        doc.are("it is", new long[] {x.pair(0, 2), x.state(0, 0), x.sends(0, 0, 0), x.goes(0, 3), x.pair(1, 2)}, 10, 10, 0, 0, 5);

        doc.says("-2: there are none such.");
        doc.all("no such", -2, x.begin(2, 0), x.begin(-1, 0), x.begin(0, 16), x.begin(0, -1));
        doc.is("it stays", x.pair(0, 2), 10);
    }

    private void lose() {
        doc.section("Promise 57: lose");
        doc.says("A card of a side of a PAIR is lost in a YEAR (1) or not (0) from now on: whether it was.");
        CardsAtYule x = Due.land(YULE);
        doc.are("the one that was told", new long[] {x.got(0, 1, 2), x.lose(0, 0, 2, 0), x.got(0, 1, 2), x.count(6)}, 0, 1, 1, 0);
        doc.are("another", new long[] {x.lose(1, 1, 3, 1), x.lose(1, 1, 3, 1), x.got(1, 0, 3), x.got(1, 1, 3), x.count(6)},
            0, 1, 0, 1, 1);
        doc.are("not any more", new long[] {x.lose(1, 1, 3, 0), x.lose(1, 1, 3, 0), x.got(1, 0, 3), x.count(6)}, 1, 0, 1, 0);

        doc.says("-2: there are none such.");
        doc.all("no such", -2, x.lose(2, 0, 0, 1), x.lose(-1, 0, 0, 1), x.lose(0, 2, 0, 1), x.lose(0, -1, 0, 1),
            x.lose(0, 0, 6, 1), x.lose(0, 0, -1, 1), x.lose(0, 0, 0, 2), x.lose(0, 0, 0, -1));
        doc.is("it stays", x.count(6), 0);
    }

    private void calls() {
        doc.section("Promise 58: calls");
        doc.says("A YEAR is one of strike (1) or not (0) from now on: whether it was.");
        CardsAtYule x = Due.land(YULE);
        doc.are("the one that was told", new long[] {x.cards(4, 1), x.calls(4, 0), x.cards(4, 1), x.count(5)}, 0, 1, 4, 0);
        doc.are("another", new long[] {x.calls(0, 1), x.calls(0, 1), x.cards(0, 1), x.cards(0, 0), x.count(5)}, 0, 1, 0, 4, 1);
        doc.are("not any more", new long[] {x.calls(0, 0), x.calls(0, 0), x.cards(0, 1)}, 1, 0, 4);

        doc.says("-2: there are none such.");
        doc.all("no such", -2, x.calls(6, 1), x.calls(-1, 1), x.calls(0, 2), x.calls(0, -1));
        doc.is("it stays", x.count(5), 0);
    }

    private void count() {
        doc.section("Promise 59: count");
        doc.says("0 PEOPLE, 1 PAIRS, 2 YEARS, 3 card, 4 hurt, 5 YEARS of strike, 6 cards told to be lost (unlike ones), 7 LINES, "
            + "8 bytes of the TAPE, 9 SLOTS that have a row.");
        CardsAtYule x = Due.land(YULE + "lost 2 0 1;lost 2 1 0;strike 4;strike 5;");
        x.feed(0, 0, 0, 0, 0);
        x.row(1, 2, 0);
        x.row(3, 0, 60);
        x.row(3, 1, 1);
        doc.are("counts", new long[] {x.count(0), x.count(1), x.count(2), x.count(3), x.count(4), x.count(5), x.count(6),
            x.count(7), x.count(8), x.count(9)}, 3, 2, 6, 3, 5, 2, 2, 13, 20, 2);

        doc.says("NONE for others.");
        doc.all("others", -1, x.count(10), x.count(-1), x.count(Integer.MAX_VALUE), x.count(Integer.MIN_VALUE));
    }

    private void keep() {
        doc.section("Promise 60: keep");
        doc.says("IMAGE k (0 .. 2) keeps the LAND: 0.");
        CardsAtYule x = Due.land(YULE);
        doc.is("keep", x.keep(0), 0);
        x.train(0, 0, 15);
        doc.are("keep others", new long[] {x.keep(1), x.keep(2), x.person(0, 0)}, 0, 0, 15);
        x.train(0, 0, 1);
        doc.are("each its own", new long[] {x.on(0), x.person(0, 0), x.on(2), x.person(0, 0), x.on(1), x.person(0, 0)},
            0, 10, 0, 15, 0, 15);
        x.train(0, 0, 7);
        doc.are("in place of another", new long[] {x.keep(0), x.on(1), x.on(0), x.person(0, 0)}, 0, 0, 0, 7);

        doc.says("-2: no such k.");
        doc.all("no such", -2, x.keep(3), x.keep(-1));
    }

    private void on() {
        doc.section("Promise 61: on");
        doc.says("It is as IMAGE k has it: 0.");
        CardsAtYule x = Due.land(YULE);
        x.keep(1);
        x.train(1, 1, 0);
        x.begin(1, 0);
        x.lose(0, 0, 2, 0);
        x.calls(4, 0);
        doc.are("as it is", new long[] {x.on(1), x.person(1, 1), x.pair(1, 2), x.count(5), x.count(6), x.cost(0), x.cost(2)},
            0, 1, 5, 1, 1, 40, 33);
        Due.tell(x, "land years 1 card 0 hurt 0;person rule 0;");
        doc.are("another land", new long[] {x.on(1), x.count(0), x.count(1), x.count(2), x.count(7), x.cost(0), x.person(2, 4)},
            0, 3, 2, 6, 9, 40, 1);
        doc.are("and once more", new long[] {x.calls(4, 0), x.on(1), x.calls(4, 0)}, 1, 0, 1);

        doc.says("-2: no such k;");
        doc.all("no such", -2, x.on(3), x.on(-1));

        doc.says("-6: it has nothing.");
        doc.all("nothing", -6, x.on(0), x.on(2));
    }

    /** Numbers of a row, each 0, 1 or another (9), as the land of nobody sending tells them. */
    private static long[] numbers(CardsAtYule x, int slot, int width, int n) {
        long[] read = new long[n];
        for (int i = 0; i < n; i++) {
            x.row(3, width, 3);
            x.paste(slot, i, 3, 1, 1);
            int odd = x.odd(3, 0);
            read[i] = odd == -1 ? 0 : odd == 0 ? 1 : 9;
        }
        return read;
    }

    private static CardsAtYule silent() {
        return pairOf("0", "0", 0, "");
    }

    private void row() {
        doc.section("Promise 62: row");
        doc.says("A SLOT (0 .. 3) has a row of n numbers of a WIDTH, all 0 (in place of another one): 0.");
        CardsAtYule x = silent();
        doc.are("row", new long[] {x.row(0, 0, 2), x.row(1, 3, 60), x.row(2, 1, 0), x.row(3, 2, 1), x.count(9)}, 0, 0, 0, 0, 4);
        doc.are("how many", new long[] {x.write(0, 1, 1), x.write(0, 2, 1), x.write(1, 59, 1), x.write(1, 60, 1), x.write(2, 0, 1)},
            0, -7, 0, -7, -7);
        doc.are("one that is 1", numbers(x, 0, 0, 2), 0, 1);
        x.row(0, 0, 3);
        doc.are("all 0, one more", numbers(x, 0, 0, 3), 0, 0, 0);
        doc.are("of another width", new long[] {x.row(0, 1, 1), x.paste(0, 0, 3, 0, 1), x.row(3, 1, 1), x.paste(0, 0, 3, 0, 1)},
            0, -8, 0, 0);

        doc.says("-2: there is no such SLOT or WIDTH (0 .. 3), or n is above 60;");
        doc.all("no such", -2, x.row(4, 0, 1), x.row(-1, 0, 1), x.row(0, 4, 1), x.row(0, -1, 1), x.row(0, 0, 61),
            x.row(0, 0, Integer.MAX_VALUE), x.row(4, 0, -1), x.row(0, 4, -1));
        doc.are("it stays", new long[] {x.write(0, 0, 1), x.write(0, 1, 1)}, 0, -7);

        doc.says("-3, and the SLOT stays: n is below 0.");
        doc.all("below 0", -3, x.row(0, 0, -1), x.row(0, 0, Integer.MIN_VALUE));
        doc.are("it stays", numbers(x, 0, 1, 1), 1);
        CardsAtYule y = silent();
        doc.are("nothing stays nothing", new long[] {y.row(0, 0, -1), y.count(9), y.write(0, 0, 0)}, -3, 0, -6);
    }

    private void write() {
        doc.section("Promise 63: write");
        doc.says("Number i of the SLOT's row is v, cut to its WIDTH: 0.");
        for (int width = 0; width < 4; width++) {
            CardsAtYule x = silent();
            x.row(0, width, 5);
            long next = width == 3 ? 0L : 1L << (8 << width);
            doc.are("write", new long[] {x.write(0, 0, 1), x.write(0, 1, next), x.write(0, 2, next | 1), x.write(0, 3, next - 1),
                x.write(0, 4, 1L << ((8 << width) - 1))}, 0, 0, 0, 0, 0);
            doc.are("of width " + width, numbers(x, 0, width, 5), 1, 0, 1, 9, 9);
            x.write(0, 0, 0);
            doc.are("another", numbers(x, 0, width, 1), 0);
        }

        doc.says("-2: there is no such SLOT;");
        CardsAtYule x = silent();
        doc.all("no such", -2, x.write(4, 0, 0), x.write(-1, 0, 0), x.write(4, -1, 0));

        doc.says("-6: it has nothing;");
        doc.all("nothing", -6, x.write(0, 0, 0), x.write(3, -1, 0), x.write(2, 60, 0));

        doc.says("-7: there is no such number.");
        x.row(0, 0, 2);
        doc.all("no such number", -7, x.write(0, 2, 0), x.write(0, -1, 0), x.write(0, Integer.MAX_VALUE, 0),
            x.write(0, Integer.MIN_VALUE, 0));
    }

    private void paste() {
        doc.section("Promise 64: paste");
        doc.says("So many numbers of a SLOT's row, from one on, are put to another one's (or its own), from one on, as they "
            + "were: 0.");
        CardsAtYule x = silent();
        Due.fill(x, 0, 2, 1, 7, 0, 1);
        x.row(1, 2, 5);
        doc.is("to another", x.paste(0, 0, 1, 2, 3), 0);
        doc.are("another", numbers(x, 1, 2, 5), 0, 0, 1, 9, 0);
        doc.are("its own", new long[] {x.paste(0, 0, 0, 1, 3)}, 0);
        doc.are("as they were, up", numbers(x, 0, 2, 4), 1, 1, 9, 0);
        doc.are("its own", new long[] {x.paste(0, 1, 0, 0, 3)}, 0);
        doc.are("as they were, down", numbers(x, 0, 2, 4), 1, 9, 0, 0);
        doc.are("none", new long[] {x.paste(0, 4, 1, 5, 0), x.paste(0, 0, 1, 0, 0)}, 0, 0);
        doc.are("another is as it was", numbers(x, 1, 2, 5), 0, 0, 1, 9, 0);

        doc.says("-2: there is no such SLOT;");
        doc.all("no such", -2, x.paste(4, 0, 0, 0, 0), x.paste(-1, 0, 0, 0, 0), x.paste(0, 0, 4, 0, 0), x.paste(0, 0, -1, 0, 0),
            x.paste(2, 0, 4, 0, 0), x.paste(4, -1, 2, 0, 0));

        doc.says("-6: one has nothing;");
        doc.all("nothing", -6, x.paste(0, 0, 2, 0, 0), x.paste(2, 0, 0, 0, 0), x.paste(2, 0, 2, 0, 0), x.paste(0, -1, 2, 0, 0));

        doc.says("-8: they are not of one WIDTH;");
        x.row(2, 1, 2);
        doc.all("not of one", -8, x.paste(0, 0, 2, 0, 1), x.paste(2, 0, 0, 0, 1), x.paste(0, 0, 2, 0, 0), x.paste(0, -1, 2, 9, 1));

        doc.says("-7, and nothing happens: some are beyond their rows, or a place or n is below 0.");
        doc.all("beyond", -7, x.paste(0, 2, 1, 0, 3), x.paste(0, 0, 1, 3, 3), x.paste(0, 0, 1, 0, 5), x.paste(0, 0, 0, 2, 3),
            x.paste(0, Integer.MAX_VALUE, 1, 0, 1), x.paste(0, 0, 1, Integer.MAX_VALUE, 1), x.paste(0, 0, 1, 0, Integer.MAX_VALUE),
            x.paste(0, Integer.MAX_VALUE, 1, 0, Integer.MAX_VALUE), x.paste(0, 5, 1, 0, 0));
        doc.all("below 0", -7, x.paste(0, -1, 1, 0, 2), x.paste(0, 0, 1, -1, 2), x.paste(0, 1, 1, 1, -1),
            x.paste(0, Integer.MIN_VALUE, 1, 0, 1), x.paste(0, 0, 1, 0, Integer.MIN_VALUE));
        doc.are("both stay", numbers(x, 0, 2, 4), 1, 9, 0, 0);
        doc.are("both stay", numbers(x, 1, 2, 5), 0, 0, 1, 9, 0);
    }
}
