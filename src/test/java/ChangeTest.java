/** Promises 55 to 61: train, begin, lose, calls, count, keep, on. */
public final class ChangeTest {
    private static final Due due = new Due();

    private static final String TEXT = "land years 3 card 7 hurt 8;person rule 0;person rule 15 forgets 4;person rule 3;"
        + "pair 0 1 begun 6;pair 1 2 begun 0;lost 1 1 0;lost 1 1 0;lost 1 0 1;strike 2;strike 2;dies 2 1;moves 2 0;";

    public static void main(String[] args) {
        training();
        beginning();
        losing();
        striking();
        counting();
        images();
        imageOfNothing();
        due.end();
    }

    private static void training() {
        CardsAtYule x = Due.land(TEXT);
        due.is("sends as told", x.sends(0, 0, 0), 0);
        due.is("train rule", x.train(0, 0, 15), 0);
        due.is("sends as trained", x.sends(0, 0, 0), 1);
        due.is("train rule again", x.train(0, 0, 0), 15);
        due.is("train return", x.train(0, 1, 1), 0);
        due.is("by return", x.sends(0, 0, 0), 2);
        due.is("train return again", x.train(0, 1, 0), 1);
        due.is("train forgets", x.train(1, 2, 50), 4);
        due.is("forgets", x.person(1, 2), 50);
        due.is("alive below", x.alive(0, 1, 1), 2);
        int[][] wrong = {{3, 0, 0}, {-1, 0, 0}, {0, 3, 0}, {0, -1, 0}, {0, 0, 16}, {0, 0, -1}, {0, 1, 2}, {0, 1, -1},
            {0, 2, 51}, {0, 2, -1}};
        for (int[] w : wrong) {
            due.is("train wrong", x.train(w[0], w[1], w[2]), -2);
        }
        due.is("nothing happened", x.person(0, 0) + x.person(0, 1) + x.person(0, 2), 0);
        due.is("no land", new CardsAtYule().train(0, 0, 0), -2);
    }

    private static void beginning() {
        CardsAtYule x = Due.land(TEXT);
        due.is("begin", x.begin(0, 15), 6);
        due.is("begun", x.pair(0, 2), 15);
        due.is("state", x.state(0, 0), 15);
        due.is("begin again", x.begin(0, 0), 15);
        due.is("begin 16", x.begin(0, 16), -2);
        due.is("begin -1", x.begin(0, -1), -2);
        due.is("begin pair 2", x.begin(2, 0), -2);
        due.is("begin pair -1", x.begin(-1, 0), -2);
    }

    private static void losing() {
        CardsAtYule x = Due.land(TEXT);
        due.is("unlike ones", x.count(6), 2);
        due.is("got in 0", x.got(0, 0, 0), 1);
        due.is("lose", x.lose(0, 1, 0, 1), 0);
        due.is("not got then", x.got(0, 0, 0), 0);
        due.is("three", x.count(6), 3);
        due.is("lose again", x.lose(0, 1, 0, 1), 1);
        due.is("three still", x.count(6), 3);
        due.is("as told", x.lose(0, 1, 1, 0), 1);
        due.is("got in 1", x.got(0, 0, 1), 1);
        due.is("not lost", x.lose(0, 1, 1, 0), 0);
        due.is("two", x.count(6), 2);
        int[][] wrong = {{2, 0, 0, 0}, {-1, 0, 0, 0}, {0, 2, 0, 0}, {0, -1, 0, 0}, {0, 0, 3, 0}, {0, 0, -1, 0},
            {0, 0, 0, 2}, {0, 0, 0, -1}};
        for (int[] w : wrong) {
            due.is("lose wrong", x.lose(w[0], w[1], w[2], w[3]), -2);
        }
    }

    private static void striking() {
        CardsAtYule x = Due.land(TEXT);
        due.is("one", x.count(5), 1);
        due.is("calls", x.calls(0, 1), 0);
        due.is("two", x.count(5), 2);
        due.is("none come", x.cards(0, 1), 0);
        due.is("calls off", x.calls(0, 0), 1);
        due.is("some come", x.cards(0, 1), 2);
        due.is("calls off again", x.calls(0, 0), 0);
        due.is("calls 3", x.calls(3, 0), -2);
        due.is("calls -1", x.calls(-1, 0), -2);
        due.is("calls is 2", x.calls(0, 2), -2);
        due.is("calls is -1", x.calls(0, -1), -2);
    }

    private static void counting() {
        CardsAtYule x = Due.land(TEXT);
        x.feed(0, 0, 0, 0, 0);
        x.row(3, 2, 0);
        int[] want = {3, 2, 3, 7, 8, 1, 2, 13, 20, 1};
        for (int what = 0; what < 10; what++) {
            due.is("count " + what, x.count(what), want[what]);
        }
        due.is("count 10", x.count(10), -1);
        due.is("count -1", x.count(-1), -1);
    }

    private static void images() {
        CardsAtYule x = Due.land(TEXT);
        due.is("nothing yet", x.on(0), -6);
        due.is("keep", x.keep(0), 0);
        x.train(0, 0, 9);
        x.train(0, 1, 1);
        x.train(0, 2, 2);
        x.begin(0, 1);
        x.lose(1, 0, 0, 1);
        x.calls(0, 1);
        due.is("keep another", x.keep(2), 0);
        x.row(0, 0, 1);
        x.feed(1, 2, 3, 4, 5);
        due.is("back to the first", x.on(0), 0);
        int[] first = {0, 0, 0, 6, 1, 2, 13, 20, 1};
        compare(x, first);
        due.is("sends of the first", x.sends(0, 0, 0), 0);
        due.is("back to the other", x.on(2), 0);
        int[] other = {9, 1, 2, 1, 2, 3, 13, 20, 1};
        compare(x, other);
        due.is("another land", Due.tell(x, "land years 9 card 1 hurt 2;"), 1);
        due.is("no people", x.count(0), 0);
        due.is("the first again", x.on(0), 0);
        due.is("people", x.count(0), 3);
        due.is("years", x.count(2), 3);
        due.is("death", x.person(2, 3), 1);
        due.is("move", x.person(2, 4), 0);
        Due.tell(x, "land years 0");
        x.on(2);
        due.is("the fault is of the latest land", x.fault(0), 2);
        due.is("image 1 has nothing", x.on(1), -6);
        due.is("keep 3", x.keep(3), -2);
        due.is("keep -1", x.keep(-1), -2);
        due.is("on 3", x.on(3), -2);
        due.is("on -1", x.on(-1), -2);
    }

    private static void compare(CardsAtYule x, int[] want) {
        int[] got = {x.person(0, 0), x.person(0, 1), x.person(0, 2), x.pair(0, 2), x.count(5), x.count(6), x.count(7),
            x.count(8), x.count(9)};
        for (int i = 0; i < want.length; i++) {
            due.is("image " + i, got[i], want[i]);
        }
    }

    private static void imageOfNothing() {
        CardsAtYule x = new CardsAtYule();
        due.is("keep no land", x.keep(1), 0);
        Due.tell(x, TEXT);
        due.is("a land", x.over(), 0);
        due.is("on to no land", x.on(1), 0);
        due.is("no land", x.over(), -2);
        due.is("no people", x.count(0), 0);
    }
}
