/** Promises 35 to 37 and 52 to 54: chances and lives, worked out by hand. */
public final class ChanceTest {
    private static final Due due = new Due();

    public static void main(String[] args) {
        oneSender();
        byReturn();
        bothForget();
        greatNumbers();
        wrongChances();
        lives();
        livesByReturn();
        wrongLives();
        due.end();
    }

    private static CardsAtYule two(String one, String other, int begun) {
        return Due.land("land years 3 card 1 hurt 1;person rule " + one + ";person rule " + other
            + ";pair 0 1 begun " + begun + ";strike 0;dies 0 0;");
    }

    private static void fractions(String name, CardsAtYule x, int n, long... want) {
        due.is(name + " alive above", x.alive(0, n, 0), want[0]);
        due.is(name + " alive below", x.alive(0, n, 1), want[1]);
        due.is(name + " both above", x.both(0, n, 0), want[2]);
        due.is(name + " both below", x.both(0, n, 1), want[3]);
        due.is(name + " mean above", x.mean(0, n, 0), want[4]);
        due.is(name + " mean below", x.mean(0, n, 1), want[5]);
    }

    private static void oneSender() {
        CardsAtYule x = two("15 forgets 50", "0", 0);
        for (int n = 1; n <= 3; n++) {
            fractions("one sender", x, n, 1, 2, 0, 1, n % 2 == 0 ? n / 2 : n, n % 2 == 0 ? 1 : 2);
        }
        fractions("none", two("0", "0 forgets 50 returns", 15), 3, 0, 1, 0, 1, 0, 1);
        fractions("all", two("15", "15", 0), 3, 1, 1, 1, 1, 6, 1);
    }

    private static void byReturn() {
        fractions("by return", two("15 forgets 50", "0 returns", 0), 1, 1, 2, 1, 2, 1, 1);
        fractions("by return forgotten", two("15 forgets 50", "0 returns forgets 50", 0), 1, 1, 2, 1, 4, 3, 4);
    }

    private static void bothForget() {
        fractions("both", two("15 forgets 10", "15 forgets 20", 0), 1, 49, 50, 18, 25, 17, 10);
        // who forgot first may send by return: 72 and 10 * 80 * 90 / 10,000 in a hundred
        fractions("both, one by return", two("15 forgets 10 returns", "15 forgets 20", 0), 1, 49, 50, 99, 125, 443, 250);
        // to who sends: 1 / 4, 1 / 2 or none got, then by what each got
        fractions("to who sends", two("10 forgets 50", "10 forgets 50", 5), 2, 7, 16, 1, 16, 3, 2);
    }

    private static void greatNumbers() {
        CardsAtYule x = two("15 forgets 49 returns", "15 forgets 47 returns", 0);
        // both forget first: 49 * 47 in 10,000, in whichever year
        due.is("alive above", x.alive(0, 3, 0), 7697);
        due.is("alive below", x.alive(0, 3, 1), 10000);
        long both = 51 * 53 * 100 + 51 * 47 * 53 + 49 * 53 * 51;
        due.is("both above", x.both(0, 3, 0), both / 4);
        due.is("both below", x.both(0, 3, 1), 1000000 / 4);
        due.is("mean above", x.mean(0, 3, 0), 3 * (769700 + both) / 32);
        due.is("mean below", x.mean(0, 3, 1), 1000000 / 32);
    }

    private static void wrongChances() {
        CardsAtYule x = two("15", "15", 0);
        int[][] wrong = {{1, 1, 0}, {-1, 1, 0}, {0, 0, 0}, {0, 4, 0}, {0, -1, 0}, {0, 1, 2}, {0, 1, -1}};
        for (int[] w : wrong) {
            due.is("alive wrong", x.alive(w[0], w[1], w[2]), -2);
            due.is("both wrong", x.both(w[0], w[1], w[2]), -2);
            due.is("mean wrong", x.mean(w[0], w[1], w[2]), -2);
        }
    }

    /** The draws from 0: 0, 68, 88, 17, 98, 27, 45, 41; from 7: 64, 6, 68, 74, 31, 65, 34, 90. */
    private static void lives() {
        CardsAtYule x = Due.land("land years 3 card 1 hurt 1;person rule 15 forgets 20;person rule 15 forgets 0;"
            + "pair 0 1 begun 0;");
        due.is("cards from 0", x.life(0, 0), 5);
        due.is("silent from 0", x.life(0, 1), 0);
        due.is("forgot from 0", x.life(0, 2), 1);
        due.is("forgot from 7", x.life(7, 2), 0);
        due.is("lives from 0", x.lives(0, 0), 2);
        x.train(0, 2, 50);
        x.train(1, 2, 50);
        // from 0: 0, 68 | 88, 17 | 98, 27
        due.is("forgot from 0", x.life(0, 2), 3);
        due.is("cards from 0", x.life(0, 0), 3);
        // from 7: 64, 6 | 68, 74 | 31, 65
        due.is("forgot from 7", x.life(7, 2), 2);
        x.train(1, 0, 0);
        // from 7, one draw a year: 64, 6, 68; from 0: 0, 68, 88
        due.is("one sender from 7", x.life(7, 0), 2);
        due.is("one sender lives", x.lives(7, 0), 2);
        x.calls(2, 1);
        due.is("a strike is sent in all the same", x.lives(7, 0), 2);
        int lasting = 0;
        for (int i = 0; i < 20; i++) {
            lasting += x.lives(7 + i, 0) == 2 ? 1 : 0;
        }
        due.is("lasts", x.lasts(7, 20, 0), lasting);
        due.is("lasts 1", x.lasts(7, 1, 0), 1);
    }

    private static void livesByReturn() {
        // from 0: side 0 forgets by 0, side 1 sends by 68, side 0 by return by 88; then 17 and 98, by return 27
        CardsAtYule x = Due.land("land years 2 card 1 hurt 1;person rule 15 forgets 25 returns;person rule 15;"
            + "pair 0 1 begun 0;");
        due.is("forgot", x.life(0, 2), 2);
        due.is("cards", x.life(0, 0), 4);
        x.train(0, 2, 28);
        due.is("forgot by return as well", x.life(0, 2), 3);
        due.is("cards", x.life(0, 0), 3);
        // who is dead draws nothing: side 1 draws alone, 0, 68
        x = Due.land("land years 2 card 1 hurt 1;person rule 15 forgets 50;person rule 15 forgets 1 returns;"
            + "pair 0 1 begun 0;dies 0 0;");
        due.is("the dead forget nothing", x.life(0, 2), 1);
        due.is("cards of the living", x.life(0, 0), 1);
        due.is("silent pairs", x.life(0, 1), 0);
        x = Due.land("land years 1 card 1 hurt 1;person rule 15 forgets 1;person rule 0;pair 0 1 begun 0;");
        due.is("never", x.lives(0, 0), -1);
        due.is("silent", x.life(0, 1), 1);
        due.is("lasts none", x.lasts(0, 1, 0), 0);
    }

    private static void wrongLives() {
        CardsAtYule x = two("15", "15", 0);
        due.is("life what 3", x.life(0, 3), -2);
        due.is("life what -1", x.life(0, -1), -2);
        due.is("life seed -1", x.life(-1, 0), -2);
        due.is("life seed beyond", x.life(2_000_000_001, 0), -2);
        due.is("life seed at most", x.life(2_000_000_000, 2), 0);
        due.is("lives pair 1", x.lives(0, 1), -2);
        due.is("lives pair -1", x.lives(0, -1), -2);
        due.is("lives seed -1", x.lives(-1, 0), -2);
        due.is("lives seed beyond", x.lives(2_000_000_001, 0), -2);
        due.is("lasts 0", x.lasts(0, 0, 0), -2);
        due.is("lasts 21", x.lasts(0, 21, 0), -2);
        due.is("lasts pair 1", x.lasts(0, 1, 1), -2);
        due.is("lasts seed -1", x.lasts(-1, 1, 0), -2);
        due.is("lasts seed beyond", x.lasts(2_000_000_001, 1, 0), -2);
        due.is("no land", new CardsAtYule().life(0, 0), -2);
    }
}
