import java.util.LinkedHashMap;
import java.util.Map;

/** A refused call and a question leave all as it was; whatever changes something is seen by the picture. */
public final class StillTest {
    private static final Due due = new Due();

    private static final String TEXT = "land years 3 card 7 hurt 8;person rule 10 returns;person rule 15 forgets 4;"
        + "person rule 3;pair 0 1 begun 6;pair 2 1 begun 9;lost 1 1 0;strike 2;dies 2 1;moves 0 0;";

    interface Call {
        long of(CardsAtYule x);
    }

    public static void main(String[] args) {
        String before = Picture.of(history());
        due.is("the same history, the same picture", Picture.of(history()).equals(before) ? 1 : 0, 1);
        refused(before);
        asked(before);
        changed(before);
        fullTape();
        faultyTape();
        due.end();
    }

    /** A land that was changed, an image of it and one of another, a tape with a text, two rows. */
    private static CardsAtYule history() {
        CardsAtYule x = Due.land("land years 2 card 1 hurt 2;person rule 5;");
        x.keep(0);
        Due.tell(x, TEXT);
        x.keep(1);
        x.train(1, 2, 9);
        x.lose(1, 0, 0, 1);
        Due.fill(x, 0, 0, 0, 1, 2, 1);
        Due.fill(x, 1, 2, 1, 2, 0);
        Due.feed(x, "land years 1 card 5 hurt 6;person rule 11;");
        return x;
    }

    private static void still(String name, String before, long answer, Call call) {
        CardsAtYule x = history();
        due.is(name, call.of(x), answer);
        compare(name, before, Picture.of(x));
    }

    private static void compare(String name, String before, String after) {
        String[] old = before.split("\n");
        String[] now = after.split("\n");
        String where = "";
        for (int i = 0; i < old.length && i < now.length && where.isEmpty(); i++) {
            where = old[i].equals(now[i]) ? "" : ": " + old[i] + " became " + now[i];
        }
        due.is(name + " leaves all as it was" + where, before.equals(after) ? 1 : 0, 1);
    }

    private static void refused(String before) {
        still("end -1", before, -1, x -> x.end(-1));
        still("end beyond", before, -1, x -> x.end(43));
        refusedChanges(before);
        refusedImages(before);
        refusedRows(before);
        refusedPastes(before);
    }

    private static void refusedChanges(String before) {
        int[][] train = {{-1, 0, 0}, {3, 0, 0}, {0, -1, 0}, {0, 3, 0}, {0, 0, -1}, {0, 0, 16}, {0, 1, -1}, {0, 1, 2},
            {1, 2, -1}, {1, 2, 51}};
        for (int[] t : train) {
            still("train " + t[0] + " " + t[1] + " " + t[2], before, -2, x -> x.train(t[0], t[1], t[2]));
        }
        int[][] begin = {{-1, 0}, {2, 0}, {0, -1}, {0, 16}};
        for (int[] b : begin) {
            still("begin " + b[0] + " " + b[1], before, -2, x -> x.begin(b[0], b[1]));
        }
        int[][] lose = {{-1, 0, 0, 1}, {2, 0, 0, 1}, {0, -1, 0, 1}, {0, 2, 0, 1}, {0, 0, -1, 1}, {0, 0, 3, 1}, {0, 0, 0, -1},
            {0, 0, 0, 2}, {0, 1, 1, 2}, {0, 1, 1, -1}};
        for (int[] l : lose) {
            still("lose " + l[0] + " " + l[1] + " " + l[2] + " " + l[3], before, -2, x -> x.lose(l[0], l[1], l[2], l[3]));
        }
        int[][] calls = {{-1, 1}, {3, 1}, {0, -1}, {0, 2}, {2, 2}, {2, -1}};
        for (int[] c : calls) {
            still("calls " + c[0] + " " + c[1], before, -2, x -> x.calls(c[0], c[1]));
        }
    }

    private static void refusedImages(String before) {
        int[] none = {-1, 3, Integer.MIN_VALUE, Integer.MAX_VALUE};
        for (int k : none) {
            still("keep " + k, before, -2, x -> x.keep(k));
            still("on " + k, before, -2, x -> x.on(k));
        }
        still("on to nothing", before, -6, x -> x.on(2));
    }

    private static void refusedRows(String before) {
        int[][] rows = {{-1, 0, 1, -2}, {4, 0, 1, -2}, {0, -1, 1, -2}, {0, 4, 1, -2}, {0, 0, 61, -2}, {0, 0, -1, -3},
            {2, 0, -1, -3}, {2, 0, 61, -2}};
        for (int[] r : rows) {
            still("row " + r[0] + " " + r[1] + " " + r[2], before, r[3], x -> x.row(r[0], r[1], r[2]));
        }
        int[][] writes = {{-1, 0, -2}, {4, 0, -2}, {2, 0, -6}, {0, -1, -7}, {0, 4, -7}, {1, 3, -7}};
        for (int[] w : writes) {
            still("write " + w[0] + " " + w[1], before, w[2], x -> x.write(w[0], w[1], 9));
        }
    }

    private static void refusedPastes(String before) {
        int[][] pastes = {{-1, 0, 0, 0, 1, -2}, {0, 0, 4, 0, 1, -2}, {2, 0, 0, 0, 1, -6}, {0, 0, 2, 0, 1, -6},
            {0, 0, 1, 0, 1, -8}, {1, 0, 0, 0, 1, -8}, {0, 0, 0, 1, 4, -7}, {0, 1, 0, 0, 4, -7}, {0, -1, 0, 0, 2, -7},
            {0, 0, 0, -1, 2, -7}, {0, 0, 0, 1, -1, -7}};
        for (int[] p : pastes) {
            still("paste " + p[0] + " " + p[1] + " " + p[2] + " " + p[3] + " " + p[4], before, p[5],
                x -> x.paste(p[0], p[1], p[2], p[3], p[4]));
        }
    }

    /** Questions that try out other rules, states, strikes and rows put nothing of it down. */
    private static void asked(String before) {
        Map<String, Call> questions = new LinkedHashMap<>();
        questions.put("fate", x -> x.fate(3, 6, 4, 1));
        questions.put("goes", x -> x.goes(0, 0));
        questions.put("lost", x -> x.lost(0, 0, 0));
        questions.put("back", x -> x.back(0, 1));
        questions.put("strike", x -> x.strike(0));
        questions.put("saves", x -> x.saves(0));
        questions.put("mildest", CardsAtYule::mildest);
        questions.put("alive", x -> x.alive(0, 3, 1));
        questions.put("both", x -> x.both(0, 3, 1));
        questions.put("mean", x -> x.mean(0, 3, 1));
        questions.put("ending", x -> x.ending(0, 0, 12));
        questions.put("step", x -> x.step(0, 0, 12, 0));
        questions.put("keeping", x -> x.keeping(0, 0, 12));
        questions.put("pen", x -> x.pen(0, 0, 12, 0));
        questions.put("quit", x -> x.quit(0, 1, 0));
        questions.put("when", x -> x.when(0, 1));
        questions.put("best", x -> x.best(0));
        questions.put("bestCost", x -> x.bestCost(0));
        questions.put("family", x -> x.family(7));
        questions.put("together", x -> x.together(7));
        questions.put("fits", x -> x.fits(1, 0));
        questions.put("which", x -> x.which(1, 0, 1));
        questions.put("begun", x -> x.begun(1, 0));
        questions.put("odd", x -> x.odd(1, 0));
        questions.put("life", x -> x.life(5, 2));
        questions.put("lives", x -> x.lives(5, 0));
        questions.put("lasts", x -> x.lasts(5, 20, 0));
        questions.put("dearest", CardsAtYule::dearest);
        questions.put("poorest", CardsAtYule::poorest);
        questions.put("over", CardsAtYule::over);
        for (Map.Entry<String, Call> question : questions.entrySet()) {
            CardsAtYule x = history();
            long first = question.getValue().of(x);
            due.is(question.getKey() + " again", question.getValue().of(x), first);
            compare(question.getKey(), before, Picture.of(x));
        }
    }

    private static void seen(String name, String before, Call call) {
        CardsAtYule x = history();
        call.of(x);
        due.is(name + " is seen", Picture.of(x).equals(before) ? 1 : 0, 0);
    }

    private static void changed(String before) {
        seen("feed", before, x -> x.feed(0, 0, 0, 0, 0));
        seen("end", before, x -> x.end(41));
        seen("land", before, CardsAtYule::land);
        seen("train 0", before, x -> x.train(0, 0, 11));
        seen("train 1", before, x -> x.train(0, 1, 0));
        seen("train 2", before, x -> x.train(0, 2, 1));
        seen("begin", before, x -> x.begin(1, 8));
        seen("lose", before, x -> x.lose(0, 0, 0, 1));
        seen("calls", before, x -> x.calls(1, 1));
        seen("keep", before, x -> x.keep(1));
        seen("keep another", before, x -> x.keep(2));
        seen("on", before, x -> x.on(0));
        seen("row", before, x -> x.row(2, 0, 0));
        seen("row of another width", before, x -> x.row(1, 3, 3));
        seen("write", before, x -> x.write(0, 3, 0));
        seen("paste", before, x -> x.paste(0, 0, 0, 1, 1));
    }

    private static CardsAtYule fullOne() {
        CardsAtYule x = Due.land(TEXT);
        Due.feed(x, TEXT + " ".repeat(1600 - TEXT.length()));
        return x;
    }

    private static void fullTape() {
        String before = Picture.of(fullOne());
        CardsAtYule x = fullOne();
        due.is("feed to a full tape", x.feed(0, 0, 0, 0, 0), -1);
        compare("feed to a full tape", before, Picture.of(x));
        x = fullOne();
        due.is("end of a full tape", x.end(1601), -1);
        compare("end of a full tape", before, Picture.of(x));
    }

    private static CardsAtYule faultyOne() {
        CardsAtYule x = history();
        x.end(0);
        Due.feed(x, "land years 1 card 5 hurt 6;person rule 16;");
        x.land();
        return x;
    }

    /** A fault in the middle of a text, of which the lines ahead were read: the land and the tape stay. */
    private static void faultyTape() {
        String before = Picture.of(faultyOne());
        CardsAtYule x = faultyOne();
        due.is("land with a fault", x.land(), -4);
        compare("land with a fault", before, Picture.of(x));
        due.is("the land by it", before.contains("now, count 7 10\n") ? 1 : 0, 1);
        due.is("the tape by it", before.contains("now, count 8 42\n") ? 1 : 0, 1);
        due.is("the fault by it", before.contains("now, fault 2 39\n") ? 1 : 0, 1);
    }
}
