/** Promises 1 to 5: a new object, feed, end, land, fault. */
public final class TapeTest {
    private static final Due due = new Due();

    private static final String LAND = "land years 5 card 3 hurt 2;";
    private static final String TWO = LAND + "person rule 0;person rule 1;";

    public static void main(String[] args) {
        newObject();
        feeding();
        ending();
        landing();
        goodTexts();
        faultsOfTokens();
        faultsOfNumbers();
        faultsOfMany();
        laterLinesStrike();
        due.end();
    }

    private static void newObject() {
        CardsAtYule x = new CardsAtYule();
        for (int what = 0; what < 10; what++) {
            due.is("count " + what + " of a new one", x.count(what), 0);
        }
        due.is("dearest of a new one", x.dearest(), -2);
        due.is("fault 0 of a new one", x.fault(0), 0);
        due.is("fault 1 of a new one", x.fault(1), -1);
        due.is("fault 2 of a new one", x.fault(2), -1);
        due.is("NONE", CardsAtYule.NONE, -1);
    }

    private static void feeding() {
        CardsAtYule x = new CardsAtYule();
        for (int i = 1; i <= 80; i++) {
            due.is("feed " + i, x.feed(0, 0, 0, 0, 0), 20 * i);
        }
        due.is("feed beyond", x.feed(0, 0, 0, 0, 0), -1);
        due.is("count after feed beyond", x.count(8), 1600);
        due.is("end(1580)", x.end(1580), 1580);
        due.is("feed the last", x.feed(0, 0, 0, 0, 0), 1600);
        x.end(1581);
        due.is("feed one too many", x.feed(0, 0, 0, 0, 0), -1);
        due.is("none came", x.count(8), 1581);
        x.end(0);
        // "land years 1 card 0 hurt 0;" by hand, the highest byte first
        x.feed(0x6c616e64, 0x20796561, 0x72732031, 0x20636172, 0x64203020);
        x.feed(0x68757274, 0x20303b00, 0, 0, 0);
        due.is("end of the bytes", x.end(27), 27);
        due.is("land of the bytes", x.land(), 1);
    }

    private static void ending() {
        CardsAtYule x = new CardsAtYule();
        due.is("end(0) of nothing", x.end(0), 0);
        due.is("end(1) of nothing", x.end(1), -1);
        x.feed(1, 2, 3, 4, 5);
        due.is("end(21)", x.end(21), -1);
        due.is("end(-1)", x.end(-1), -1);
        due.is("nothing happened", x.count(8), 20);
        due.is("end(20)", x.end(20), 20);
        due.is("end(7)", x.end(7), 7);
        due.is("seven", x.count(8), 7);
        due.is("end(8)", x.end(8), -1);
    }

    private static void landing() {
        CardsAtYule x = new CardsAtYule();
        due.is("land", Due.tell(x, TWO), 3);
        due.is("the tape is empty", x.count(8), 0);
        due.is("people", x.count(0), 2);
        due.is("years", x.count(2), 5);
        due.is("a fault", Due.tell(x, LAND + "person rule 16;"), -4);
        due.is("all stays: people", x.count(0), 2);
        due.is("all stays: lines", x.count(7), 3);
        due.is("all stays: the tape", x.count(8), 42);
        due.is("fault", x.fault(0), 2);
        due.is("its place", x.fault(1), 39);
        due.is("fault(2)", x.fault(2), -1);
        due.is("fault(-1)", x.fault(-1), -1);
        due.is("another land", Due.tell(x, "land years 9 card 1 hurt 0;"), 1);
        due.is("in place", x.count(0), 0);
        due.is("in place", x.count(2), 9);
        due.is("fault without", x.fault(0), 0);
        due.is("place without", x.fault(1), -1);
        due.is("dearest of nobody", x.dearest(), -1);
        due.is("no lines", Due.tell(x, " \n "), 0);
        for (int what = 0; what < 9; what++) {
            due.is("count " + what + " then", x.count(what), 0);
        }
        due.is("no land then", x.over(), -2);
    }

    private static void good(String text, int lines) {
        CardsAtYule x = new CardsAtYule();
        due.is(text, Due.tell(x, text), lines);
        due.is("fault of " + text, x.fault(0), 0);
        due.is("place of " + text, x.fault(1), -1);
    }

    private static void bad(String text, int fault, int place) {
        CardsAtYule x = new CardsAtYule();
        due.is(text, Due.tell(x, text), -4);
        due.is("fault of " + text, x.fault(0), fault);
        due.is("place of " + text, x.fault(1), place);
        due.is("the tape of " + text, x.count(8), text.length());
    }

    private static void goodTexts() {
        good("", 0);
        good("land years 1 card 0 hurt 0;", 1);
        good("land years 40 card 99 hurt 99 ;\n", 1);
        good("land\nyears0040card 007 hurt00;person rule15returns;", 2);
        good(LAND + "person rule 0 returns forgets 50;", 2);
        good(LAND + "person rule 0 forgets 0 returns;", 2);
        good(LAND + "person rule 0 forgets 7;", 2);
        good(TWO + "pair 0 1 begun 15;lost 4 1 0;lost 4 1 0;strike 0;strike 0;dies 1 4;moves 0 0;", 10);
        good(TWO + "pair 1 0 begun 0;", 4);
    }

    private static void faultsOfTokens() {
        bad(";", 1, 0);
        bad("  ;", 1, 2);
        bad("5", 1, 0);
        bad("person rule 0;", 1, 0);
        bad("landyears 5 card 3 hurt 2;", 1, 0);
        bad("landz years 5 card 3 hurt 2;", 1, 0);
        bad("{and years 5 card 3 hurt 2;", 1, 0);
        bad("land`years 5 card 3 hurt 2;", 1, 4);
        bad("land{years 5 card 3 hurt 2;", 1, 4);
        bad("land years 5:card 3 hurt 2;", 1, 12);
        bad("land years 5/card 3 hurt 2;", 1, 12);
        bad("Land years 5 card 3 hurt 2;", 1, 0);
        bad("land", 1, 4);
        bad("land  ", 1, 6);
        bad("land years", 1, 10);
        bad("land years;", 1, 10);
        bad("land years 5 5 card 3 hurt 2;", 1, 13);
        bad("land years 5 hurt 3 card 2;", 1, 13);
        bad("land years -5 card 3 hurt 2;", 1, 11);
        bad("land years 5 card 3 hurt 2", 1, 26);
        bad("land years 5 card 3 hurt 2\t;", 1, 26);
        bad("land years 5 card 3 hurt 2;;", 1, 27);
        bad(LAND + LAND, 1, 27);
        bad(LAND + "people rule 0;", 1, 27);
        bad(LAND + "person 3;", 1, 34);
        bad(LAND + "person rule returns;", 1, 39);
        bad(LAND + "person rule 1 returns returns;", 1, 49);
        bad(LAND + "person rule 1 forgets 2 forgets 2;", 1, 51);
        bad(LAND + "person rule 1 returns forgets 2 returns;", 1, 59);
        bad(LAND + "person rule 1 forgets returns;", 1, 49);
        bad(LAND + "person rule 1 forgets 2 3;", 1, 51);
        bad(LAND + "person rule 1" + (char) 233 + ";", 1, 40);
        bad(LAND + (char) 0, 1, 27);
        bad(TWO + "pair 0 1;", 1, 63);
        bad(TWO + "pair 0 1 begun;", 1, 69);
        bad(TWO + "lost 0 0;", 1, 63);
        bad(TWO + "strike;", 1, 61);
        bad(TWO + "dies 0;", 1, 61);
        bad(TWO + "moves 0 1 1;", 1, 65);
    }

    private static void faultsOfNumbers() {
        bad("land years 0 card 3 hurt 2;", 2, 11);
        bad("land years 41 card 3 hurt 2;", 2, 11);
        bad("land years 4294967297 card 3 hurt 2;", 2, 11);
        bad("land years 5 card 100 hurt 2;", 2, 18);
        bad("land years 5 card 3 hurt 100;", 2, 25);
        bad(LAND + "person rule 16;", 2, 39);
        bad(LAND + "person rule 1 forgets 51;", 2, 49);
        bad(LAND + "pair 0 1 begun 0;", 2, 32);
        bad(TWO + "pair 2 1 begun 0;", 2, 60);
        bad(TWO + "pair 0 2 begun 0;", 2, 62);
        bad(TWO + "pair 2 2 begun 0;", 2, 60);
        bad(TWO + "pair 1 1 begun 0;", 2, 62);
        bad(TWO + "pair 0 1 begun 16;", 2, 70);
        bad(TWO + "pair 0 1 begun 0;pair 1 0 begun 0;", 2, 79);
        bad(TWO + "pair 0 1 begun 0;pair 0 1 foo;", 2, 79);
        bad(TWO + "lost 0 0 1;", 2, 64);
        bad(TWO + "pair 0 1 begun 0;lost 5 0 1;", 2, 77);
        bad(TWO + "pair 0 1 begun 0;lost 4 2 1;", 2, 79);
        bad(TWO + "pair 0 1 begun 0;lost 4 0 2;", 2, 81);
        bad(TWO + "pair 0 1 begun 0;lost 4 0 0;", 2, 81);
        bad(TWO + "strike 5;", 2, 62);
        bad(TWO + "dies 2 0;", 2, 60);
        bad(TWO + "dies 1 5;", 2, 62);
        bad(TWO + "moves 2 0;", 2, 61);
        bad(TWO + "moves 1 5;", 2, 63);
    }

    private static void faultsOfMany() {
        StringBuilder ten = new StringBuilder(LAND);
        for (int i = 0; i < 10; i++) {
            ten.append("person rule 0;");
        }
        good(ten.toString(), 11);
        bad(ten + "person rule 99;", 3, ten.length());
        bad(ten + " person", 3, ten.length() + 1);
        StringBuilder sixteen = new StringBuilder(ten);
        int pairs = 0;
        for (int one = 0; one < 10 && pairs < 16; one++) {
            for (int two = one + 1; two < 10 && pairs < 16; two++) {
                sixteen.append("pair ").append(one).append(' ').append(two).append(" begun 0;");
                pairs++;
            }
        }
        good(sixteen.toString(), 27);
        bad(sixteen + "pair 8 9 begun 0;", 3, sixteen.length());
        bad(sixteen + "pair 0 1 begun 0;", 3, sixteen.length());
    }

    private static void laterLinesStrike() {
        CardsAtYule x = Due.land(TWO + "dies 0 3;dies 0 1;moves 1 0;moves 1 4;dies 1 2;");
        due.is("the later death", x.person(0, 3), 1);
        due.is("no move", x.person(0, 4), -1);
        due.is("a death", x.person(1, 3), 2);
        due.is("the later move", x.person(1, 4), 4);
    }
}
