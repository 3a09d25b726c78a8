/**
 * All that calls may change, read out as a text: the land, the tape, the fault, the images, the rows. To read it is to
 * spend it: land, on, calls and paste are called as well. An object of which one is taken had at most some 60 calls.
 */
final class Picture {
    /** The rows are read out in a land of everyone sending: a number may be 1, or 0, or another. */
    private static final String EVERYONE = "land years 1 card 0 hurt 0;person rule 15;person rule 15;pair 0 1 begun 0;";

    private final CardsAtYule x;
    private final StringBuilder text = new StringBuilder();

    private Picture(CardsAtYule x) {
        this.x = x;
    }

    static String of(CardsAtYule x) {
        Picture picture = new Picture(x);
        picture.counts("now", 10);
        picture.land("now");
        picture.line("tape", x.land(), x.fault(0), x.fault(1));
        picture.land("by the tape");
        for (int k = 0; k < 3; k++) {
            int answer = x.on(k);
            picture.line("image " + k, answer);
            if (answer == 0) {
                picture.land("by image " + k);
            }
        }
        picture.rows();
        return picture.text.toString();
    }

    private void line(String name, long... answers) {
        text.append(name);
        for (long answer : answers) {
            text.append(' ').append(answer);
        }
        text.append('\n');
    }

    private void counts(String name, int most) {
        for (int what = 0; what < most; what++) {
            line(name + ", count " + what, x.count(what));
        }
        line(name + ", fault", x.fault(0), x.fault(1));
    }

    private void land(String name) {
        counts(name, 8);
        int people = x.count(0);
        int pairs = x.count(1);
        int years = x.count(2);
        for (int i = 0; i < people; i++) {
            line(name + ", person " + i, x.person(i, 0), x.person(i, 1), x.person(i, 2), x.person(i, 3), x.person(i, 4));
        }
        for (int i = 0; i < pairs; i++) {
            line(name + ", pair " + i, x.pair(i, 0), x.pair(i, 1), x.pair(i, 2));
            for (int year = 0; year < years; year++) {
                line(name + ", year " + year, x.sends(i, 0, year), x.sends(i, 1, year), x.got(i, 0, year), x.got(i, 1, year),
                    x.lose(i, 0, year, 0), x.lose(i, 1, year, 0));
            }
        }
        for (int year = 0; year < years; year++) {
            line(name + ", strike " + year, x.calls(year, 0));
        }
    }

    /** Slot 3 is taken to read the others; of each the width, the numbers 0 .. 3, and how many there are. */
    private void rows() {
        Due.tell(x, EVERYONE);
        for (int slot = 0; slot < 3; slot++) {
            int width = 0;
            for (int i = 0; i < 4; i++) {
                x.row(3, i, 3);
                width = x.paste(slot, 0, 3, 0, 0) == 0 ? i : width;
            }
            for (int i = 0; i < 4; i++) {
                x.row(3, width, 3);
                x.write(3, 2, 1);
                line("slot " + slot + " of width " + width + ", number " + i, x.paste(slot, i, 3, 1, 1), x.odd(3, 0));
            }
        }
    }
}
