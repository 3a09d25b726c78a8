/** Promises 6 to 24, worked out by hand on one land. */
public final class YearsTest {
    private static final Due due = new Due();

    private static final String TEXT = "land years 6 card 3 hurt 5;"
        + "person rule 10;person rule 10 returns;person rule 14 forgets 25;person rule 15;"
        + "pair 0 1 begun 5;pair 0 2 begun 5;pair 2 3 begun 0;"
        + "lost 2 0 1;strike 4;dies 3 5;moves 2 1;";

    private static final String[] SENDS = {"111110", "111210", "111110", "111111", "011111", "111110"};
    private static final String[] GOT = {"111100", "110100", "111101", "101100", "101100", "011100"};

    public static void main(String[] args) {
        CardsAtYule x = Due.land(TEXT);
        people(x);
        rules(x);
        courses(x);
        years(x);
        lists(x);
        hurts(x);
        pairs(x);
        mishaps();
        nobody();
        due.end();
    }

    private static void row(String name, long[] want, long... got) {
        for (int i = 0; i < want.length; i++) {
            due.is(name + " " + i, got[i], want[i]);
        }
    }

    private static void people(CardsAtYule x) {
        long[][] want = {{10, 0, 0, -1, -1}, {10, 1, 0, -1, -1}, {14, 0, 25, -1, 1}, {15, 0, 0, 5, -1}};
        for (int p = 0; p < 4; p++) {
            row("person " + p, want[p], x.person(p, 0), x.person(p, 1), x.person(p, 2), x.person(p, 3), x.person(p, 4));
        }
        due.is("person what 5", x.person(0, 5), -2);
        due.is("person what -1", x.person(0, -1), -2);
        due.is("person 4", x.person(4, 0), -2);
        due.is("person -1", x.person(-1, 0), -2);
        row("pair 2", new long[] {2, 3, 0}, x.pair(2, 0), x.pair(2, 1), x.pair(2, 2));
        due.is("pair what 3", x.pair(0, 3), -2);
        due.is("pair what -1", x.pair(0, -1), -2);
        due.is("pair 3", x.pair(3, 0), -2);
        due.is("pair -1", x.pair(-1, 0), -2);
        due.is("of 0 2", x.of(0, 2), 1);
        due.is("of 2 0", x.of(2, 0), 1);
        due.is("of 1 2", x.of(1, 2), -1);
        due.is("of 1 1", x.of(1, 1), -2);
        due.is("of 1 4", x.of(1, 4), -2);
        due.is("of -1 1", x.of(-1, 1), -2);
    }

    private static void rules(CardsAtYule x) {
        due.is("does 1", x.does(1, 0, 0), 1);
        due.is("does 2", x.does(2, 1, 0), 1);
        due.is("does 4", x.does(4, 0, 1), 1);
        due.is("does 8", x.does(8, 1, 1), 1);
        due.is("does not 1", x.does(1, 1, 0), 0);
        due.is("does not 13", x.does(13, 1, 0), 0);
        due.is("does not 11", x.does(11, 0, 1), 0);
        due.is("does 16", x.does(16, 0, 0), -2);
        due.is("does -1", x.does(-1, 0, 0), -2);
        due.is("does last 2", x.does(0, 2, 0), -2);
        due.is("does ahead 2", x.does(0, 0, 2), -2);
        due.is("does ahead -1", x.does(0, 0, -1), -2);
    }

    private static void courses(CardsAtYule x) {
        for (int i = 0; i < 6; i++) {
            for (int y = 0; y < 6; y++) {
                due.is("sends " + i + " " + y, x.sends(i / 2, i % 2, y), SENDS[i].charAt(y) - '0');
                due.is("got " + i + " " + y, x.got(i / 2, i % 2, y), GOT[i].charAt(y) - '0');
            }
        }
        int[] states = {5, 15, 15, 11, 7, 10, 0};
        for (int y = 0; y <= 6; y++) {
            due.is("state " + y, x.state(0, y), states[y]);
        }
        due.is("state 7", x.state(0, 7), -2);
        due.is("state -1", x.state(0, -1), -2);
        due.is("state of 3", x.state(3, 0), -2);
        int[][] wrong = {{3, 0, 0}, {-1, 0, 0}, {0, 2, 0}, {0, -1, 0}, {0, 0, 6}, {0, 0, -1}};
        for (int[] w : wrong) {
            due.is("sends wrong", x.sends(w[0], w[1], w[2]), -2);
            due.is("got wrong", x.got(w[0], w[1], w[2]), -2);
        }
    }

    private static void years(CardsAtYule x) {
        int[][] want = {{5, 6, 6, 6, 6, 2}, {5, 4, 5, 6, 0, 1}, {0, 2, 1, 0, 6, 1}};
        for (int what = 0; what < 3; what++) {
            for (int y = 0; y < 6; y++) {
                due.is("cards " + y + " " + what, x.cards(y, what), want[what][y]);
            }
        }
        due.is("cards 6", x.cards(6, 0), -2);
        due.is("cards -1", x.cards(-1, 0), -2);
        due.is("cards what 3", x.cards(0, 3), -2);
        due.is("cards what -1", x.cards(0, -1), -2);
        due.is("poorest", x.poorest(), 5);
        due.is("over", x.over(), 1);
    }

    private static void lists(CardsAtYule x) {
        row("list", new long[] {2, 0, 1, 2, 0}, x.list(0, 1), x.list(0, 5), x.list(2, 0), x.list(2, 5), x.list(3, 5));
        row("mantel", new long[] {2, 1, 2, 0}, x.mantel(0, 0), x.mantel(0, 5), x.mantel(2, 0), x.mantel(1, 4));
        row("whose", new long[] {6, 4, 9, 0, 1}, x.whose(0, 0), x.whose(0, 5), x.whose(2, 0), x.whose(2, 1), x.whose(1, 3));
        int[][] wrong = {{4, 0}, {-1, 0}, {0, 6}, {0, -1}};
        for (int[] w : wrong) {
            due.is("list wrong", x.list(w[0], w[1]), -2);
            due.is("mantel wrong", x.mantel(w[0], w[1]), -2);
            due.is("whose wrong", x.whose(w[0], w[1]), -2);
        }
    }

    private static void hurts(CardsAtYule x) {
        row("hurts", new long[] {2, 2, 6, 2}, x.hurts(0, 0), x.hurts(1, 0), x.hurts(2, 0), x.hurts(3, 0));
        row("shames", new long[] {1, 0, 1, 0}, x.hurts(0, 1), x.hurts(1, 1), x.hurts(2, 1), x.hurts(3, 1));
        row("cost", new long[] {40, 25, 63, 25, -2, -2}, x.cost(0), x.cost(1), x.cost(2), x.cost(3), x.cost(4), x.cost(-1));
        due.is("dearest", x.dearest(), 2);
        due.is("hurts what 2", x.hurts(0, 2), -2);
        due.is("hurts what -1", x.hurts(0, -1), -2);
        due.is("hurts of 4", x.hurts(4, 0), -2);
    }

    private static void pairs(CardsAtYule x) {
        row("last", new long[] {4, 5, 5, -2, -2}, x.last(0), x.last(1), x.last(2), x.last(3), x.last(-1));
        row("odds", new long[] {0, -1, 0, -100, -100}, x.odds(0), x.odds(1), x.odds(2), x.odds(3), x.odds(-1));
        row("streak", new long[] {2, 2, 2}, x.streak(0, 0), x.streak(1, 0), x.streak(2, 0));
        row("streak from", new long[] {0, 2, 2}, x.streak(0, 1), x.streak(1, 1), x.streak(2, 1));
        due.is("streak what 2", x.streak(0, 2), -2);
        due.is("streak what -1", x.streak(0, -1), -2);
        due.is("streak of 3", x.streak(3, 0), -2);
    }

    /** A card that is lost, struck, or goes to who is dead or moves, also by return. */
    private static void mishaps() {
        String two = "land years 3 card 1 hurt 1;person rule 15;person rule 0 returns;pair 0 1 begun 0;";
        CardsAtYule x = Due.land(two + "lost 0 1 0;moves 0 1;dies 0 2;");
        row("by return, lost", new long[] {1, 2, 0, 1}, x.sends(0, 0, 0), x.sends(0, 1, 0), x.got(0, 0, 0), x.got(0, 1, 0));
        row("by return to who moves", new long[] {1, 2, 0, 1}, x.sends(0, 0, 1), x.sends(0, 1, 1), x.got(0, 0, 1), x.got(0, 1, 1));
        row("dead", new long[] {0, 0, 0, 0}, x.sends(0, 0, 2), x.sends(0, 1, 2), x.got(0, 0, 2), x.got(0, 1, 2));
        due.is("hurts of 0", x.hurts(0, 0), 2);
        due.is("hurts of 1", x.hurts(1, 0), 0);
        x = Due.land(two + "lost 0 0 1;moves 1 1;dies 1 2;");
        for (int y = 0; y < 3; y++) {
            row("none to return " + y, new long[] {1, 0, 0, 0}, x.sends(0, 0, y), x.sends(0, 1, y), x.got(0, 0, y), x.got(0, 1, y));
        }
        x = Due.land("land years 2 card 1 hurt 1;person rule 15;person rule 15;pair 0 1 begun 0;dies 0 0;moves 1 0;");
        row("dead from the first on", new long[] {0, 0, 1, 1}, x.sends(0, 0, 0), x.sends(0, 0, 1), x.sends(0, 1, 0), x.sends(0, 1, 1));
    }

    private static void nobody() {
        CardsAtYule x = Due.land("land years 3 card 1 hurt 1;");
        due.is("dearest of nobody", x.dearest(), -1);
        due.is("over of nobody", x.over(), 0);
        due.is("poorest of nobody", x.poorest(), 0);
        due.is("mildest of nobody", x.mildest(), 0);
        due.is("cards of nobody", x.cards(2, 0), 0);
        x = Due.land("land years 3 card 1 hurt 1;person rule 0;person rule 0;pair 0 1 begun 15;");
        due.is("last of silence", x.last(0), -1);
        due.is("streak of silence", x.streak(0, 0), 0);
        due.is("streak from of silence", x.streak(0, 1), -1);
        due.is("dearest, the first of several", x.dearest(), 0);
        due.is("over of silence", x.over(), 1);
    }
}
