/** What the tests share: telling a land as a text, and comparing an answer with the one that is due. */
final class Due {
    private int asked = 0;
    private int wrong = 0;

    void is(String call, long got, long want) {
        asked++;
        if (got != want) {
            wrong++;
            System.out.println(call + " answered " + got + ", due is " + want);
        }
    }

    void end() {
        System.out.println(asked + " answers, " + wrong + " not as due");
        if (wrong != 0 || asked == 0) {
            System.exit(1);
        }
    }

    /** Feeds a text behind an empty tape; signs stand for their low bytes. */
    static void feed(CardsAtYule x, String text) {
        for (int from = 0; from < text.length(); from += 20) {
            int[] five = new int[5];
            for (int i = 0; i < 20; i++) {
                int sign = from + i < text.length() ? text.charAt(from + i) & 255 : 0;
                five[i / 4] = five[i / 4] << 8 | sign;
            }
            x.feed(five[0], five[1], five[2], five[3], five[4]);
        }
        x.end(text.length());
    }

    static int tell(CardsAtYule x, String text) {
        x.end(0);
        feed(x, text);
        return x.land();
    }

    /** A new object with a land that is told. */
    static CardsAtYule land(String text) {
        CardsAtYule x = new CardsAtYule();
        int lines = tell(x, text);
        if (lines <= 0) {
            throw new IllegalStateException("the test's land is refused: " + text);
        }
        return x;
    }

    static void fill(CardsAtYule x, int slot, int width, long... numbers) {
        x.row(slot, width, numbers.length);
        for (int i = 0; i < numbers.length; i++) {
            x.write(slot, i, numbers[i]);
        }
    }
}
