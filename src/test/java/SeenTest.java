/** Promises 48 to 51: what was seen on mantelpieces, worked out by hand. */
public final class SeenTest {
    private static final Due due = new Due();

    public static void main(String[] args) {
        CardsAtYule x = Due.land("land years 3 card 1 hurt 1;person rule 0;person rule 15;pair 0 1 begun 0;");
        nothingSeen(x);
        oneYear(x);
        clashes(x);
        wrong(x);
        allElseAsTold();
        beginnings();
        due.end();
    }

    private static void seen(String name, CardsAtYule x, long fits, long which0, long which1, long begun, long odd) {
        due.is(name + ", fits", x.fits(0, 0), fits);
        due.is(name + ", which 0", x.which(0, 0, 0), which0);
        due.is(name + ", which 1", x.which(0, 0, 1), which1);
        due.is(name + ", begun", x.begun(0, 0), begun);
        due.is(name + ", odd", x.odd(0, 0), odd);
    }

    private static void nothingSeen(CardsAtYule x) {
        Due.fill(x, 0, 0);
        seen("nothing seen", x, 1024, 0xFFFFFFFFL, 0xFFFFFFFFL, 0xFFFF, -1);
    }

    private static void oneYear(CardsAtYule x) {
        // side 0 got one and sent none, neither first nor by return
        Due.fill(x, 0, 3, 0, 1, 0);
        seen("one year", x, 8 * 16, 0x5555L, 0xAAAAAAAAL, 0xFFFF, -1);
        // side 1 got one first and side 0 one, first or by return
        Due.fill(x, 0, 1, 0, 1, 1);
        seen("both got", x, 16 * 16 + 2 * 16 * 8, 0xFFFFAAAAL, 0xFFFFAAAAL, 0, 0);
        Due.fill(x, 0, 2, 0, 1, 0, 1, 1, 0, 2, 0, 0);
        due.is("the third is odd", x.odd(0, 0), 2);
        due.is("as it can't have been begun", x.begun(0, 0), 0);
    }

    private static void clashes(CardsAtYule x) {
        Due.fill(x, 0, 0, 0, 1, 0, 0, 1, 0);
        due.is("twice the same", x.fits(0, 0), 8 * 16);
        Due.fill(x, 0, 0, 0, 1, 0, 0, 0, 0);
        seen("twice unlike", x, 0, 0, 0, 0, 1);
        Due.fill(x, 0, 0, 0, 0, 0, 0, 1, 0);
        due.is("the first is odd", x.odd(0, 0), 0);
        Due.fill(x, 0, 0, 0, 1, 0, 0, 1, 1);
        due.is("unlike in the other side", x.fits(0, 0), 0);
    }

    private static void refused(String name, CardsAtYule x, int slot, int pair, long want) {
        due.is(name + ", fits", x.fits(slot, pair), want);
        due.is(name + ", which", x.which(slot, pair, 0), want);
        due.is(name + ", begun", x.begun(slot, pair), want);
        due.is(name + ", odd", x.odd(slot, pair), want);
    }

    private static void wrong(CardsAtYule x) {
        refused("slot 4", x, 4, 0, -2);
        refused("slot -1", x, -1, 0, -2);
        refused("nothing", x, 3, 0, -6);
        refused("pair 1", x, 0, 1, -2);
        refused("pair 1 with nothing", x, 3, 1, -2);
        refused("pair -1", x, 0, -1, -2);
        due.is("side 2", x.which(0, 0, 2), -2);
        due.is("side -1", x.which(0, 0, -1), -2);
        due.is("side 2 with nothing", x.which(3, 0, 2), -2);
        long[][] rows = {{0}, {0, 0}, {0, 0, 0, 0}, {3, 0, 0}, {-1, 0, 0}, {0, 2, 0}, {0, 0, 2}, {0, -1, 0}, {0, 0, -1},
            {0, 0, 0, 3, 0, 0}, {1L << 32, 0, 0}, {0, 1L << 32, 0}};
        for (long[] row : rows) {
            Due.fill(x, 1, 3, row);
            refused("a row that is not so", x, 1, 0, -2);
        }
        Due.fill(x, 1, 0, 256 + 2, 257, 256);
        due.is("cut to its width", x.odd(1, 0), -1);
    }

    private static void allElseAsTold() {
        CardsAtYule x = Due.land("land years 2 card 1 hurt 1;person rule 0;person rule 15;pair 0 1 begun 0;strike 0;");
        Due.fill(x, 0, 0, 0, 0, 0);
        seen("nobody gets in a strike", x, 1024, 0xFFFFFFFFL, 0xFFFFFFFFL, 0xFFFF, -1);
        x = Due.land("land years 2 card 1 hurt 1;person rule 0;person rule 15;pair 0 1 begun 0;dies 0 1;moves 1 0;");
        Due.fill(x, 0, 0, 0, 1, 0);
        due.is("what comes to who moves is not seen", x.fits(0, 0), 32 * 16);
        Due.fill(x, 0, 0, 1, 0, 1);
        due.is("the dead send none", x.fits(0, 0), 0);
    }

    private static void beginnings() {
        CardsAtYule x = Due.land("land years 2 card 1 hurt 1;person rule 10;person rule 10;pair 0 1 begun 5;");
        Due.fill(x, 0, 0, 0, 1, 0);
        // side 1 got one in the last year, side 0 none
        due.is("begun", x.begun(0, 0), 1 << 4 | 1 << 6 | 1 << 12 | 1 << 14);
        due.is("odd", x.odd(0, 0), 0);
        due.is("how it was begun is as told", x.pair(0, 2), 5);
    }
}
