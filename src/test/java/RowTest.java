/** Promises 62 to 64: row, write, paste; what the rows hold is seen by odd. */
public final class RowTest {
    private static final Due due = new Due();

    public static void main(String[] args) {
        rows();
        writing();
        pasting();
        overlapping();
        wrongPastes();
        due.end();
    }

    private static void rows() {
        CardsAtYule x = new CardsAtYule();
        due.is("none", x.count(9), 0);
        due.is("row", x.row(0, 0, 60), 0);
        due.is("row of none", x.row(3, 3, 0), 0);
        due.is("two", x.count(9), 2);
        due.is("slot 4", x.row(4, 0, 1), -2);
        due.is("slot -1", x.row(-1, 0, 1), -2);
        due.is("width 4", x.row(0, 4, 1), -2);
        due.is("width -1", x.row(0, -1, 1), -2);
        due.is("61", x.row(0, 0, 61), -2);
        due.is("below 0", x.row(0, 0, -1), -3);
        due.is("slot 4 below 0", x.row(4, 0, -1), -2);
        due.is("width 4 below 0", x.row(0, 4, -1), -2);
        due.is("least", x.row(1, 0, Integer.MIN_VALUE), -3);
        due.is("two still", x.count(9), 2);
        due.is("the slot stays", x.write(0, 59, 1), 0);
        due.is("in place of another", x.row(0, 1, 2), 0);
        due.is("a shorter one", x.write(0, 2, 1), -7);
    }

    private static void writing() {
        CardsAtYule x = new CardsAtYule();
        due.is("slot 4", x.write(4, 0, 0), -2);
        due.is("slot -1", x.write(-1, 0, 0), -2);
        due.is("nothing", x.write(0, 0, 0), -6);
        due.is("nothing, -1", x.write(0, -1, 0), -6);
        x.row(0, 0, 3);
        due.is("beyond", x.write(0, 3, 0), -7);
        due.is("-1", x.write(0, -1, 0), -7);
        due.is("last", x.write(0, 2, Long.MIN_VALUE), 0);
        x = years();
        for (int width = 0; width < 4; width++) {
            long above = width == 3 ? 0 : 1L << (8 << width);
            Due.fill(x, 0, width, above + 1, above, above);
            due.is("cut to width " + width, x.odd(0, 0), -1);
            Due.fill(x, 0, width, 1, width == 0 ? 128 : 1L << (8 << width - 1), 0);
            due.is("not cut by width " + width, x.odd(0, 0), -2);
        }
        Due.fill(x, 0, 3, 40, 2, 2);
        x.row(0, 3, 3);
        due.is("all 0 anew", x.odd(0, 0), -1);
    }

    /** Of a pair that sends nothing in 40 years, so that odd tells the first with other than 0. */
    private static CardsAtYule years() {
        return Due.land("land years 40 card 0 hurt 0;person rule 0;person rule 0;pair 0 1 begun 0;");
    }

    private static void pasting() {
        CardsAtYule x = years();
        Due.fill(x, 0, 1, 5, 0, 0, 6, 1, 0);
        Due.fill(x, 1, 1, 0, 0, 0, 0, 0, 0, 0, 0, 0);
        due.is("paste", x.paste(0, 3, 1, 3, 3), 0);
        due.is("pasted", x.odd(1, 0), 1);
        due.is("the first stays", x.odd(0, 0), 1);
        due.is("paste none", x.paste(0, 6, 1, 9, 0), 0);
        due.is("paste all", x.paste(0, 0, 1, 0, 6), 0);
        due.is("pasted all", x.odd(1, 0), 1);
        x.row(0, 1, 3);
        due.is("as they were, paste back", x.paste(1, 3, 0, 0, 3), 0);
        due.is("pasted back", x.odd(0, 0), 0);
    }

    private static void overlapping() {
        CardsAtYule x = years();
        Due.fill(x, 2, 3, 1, 1, 0, 0, 0, 0, 0);
        x.write(2, 2, 0);
        // onward: 1 1 1 0 0 0 0, as they were
        due.is("onward", x.paste(2, 0, 2, 1, 6), 0);
        x.row(0, 3, 3);
        x.paste(2, 4, 0, 0, 3);
        due.is("the last three", x.odd(0, 0), -1);
        x.paste(2, 1, 0, 0, 3);
        due.is("1 1 0", x.odd(0, 0), 0);
        due.is("back", x.paste(2, 2, 2, 0, 5), 0);
        x.paste(2, 0, 0, 0, 3);
        due.is("1 0 0", x.odd(0, 0), -1);
    }

    private static void wrongPastes() {
        CardsAtYule x = new CardsAtYule();
        x.row(0, 1, 3);
        x.row(1, 1, 5);
        x.row(2, 2, 3);
        due.is("from slot 4", x.paste(4, 0, 0, 0, 1), -2);
        due.is("to slot 4", x.paste(0, 0, 4, 0, 1), -2);
        due.is("from slot -1", x.paste(-1, 0, 3, 0, 1), -2);
        due.is("to slot -1", x.paste(3, 0, -1, 0, 1), -2);
        due.is("from nothing", x.paste(3, 0, 0, 0, 1), -6);
        due.is("to nothing", x.paste(0, 0, 3, 0, -1), -6);
        due.is("widths", x.paste(0, 0, 2, 0, 1), -8);
        due.is("widths, beyond", x.paste(0, 9, 2, 0, 1), -8);
        int max = Integer.MAX_VALUE;
        int[][] beyond = {{0, 0, 4}, {1, 0, 3}, {0, 3, 3}, {3, 0, 1}, {0, 5, 1}, {-1, 0, 1}, {0, -1, 1}, {0, 0, -1},
            {max, 0, max}, {0, max, 1}, {1, 0, max}, {4, 0, 0}, {0, 6, 0}, {0, 0, Integer.MIN_VALUE}};
        for (int[] b : beyond) {
            due.is("beyond " + b[0] + " " + b[1] + " " + b[2], x.paste(0, b[0], 1, b[1], b[2]), -7);
        }
        due.is("none at the ends", x.paste(0, 3, 1, 5, 0), 0);
    }
}
