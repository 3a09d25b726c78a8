/** Numbers at the edges of what a call takes, and the first ones beside them; lands that are full. */
final class Edge {
    interface Call {
        long with(int number);
    }

    /** At most 10 people, 16 pairs, 40 years, all at their highest; everyone sends, everything comes. */
    static final String FULL_LAND = "land years 40 card 99 hurt 99;" + "person rule 15;".repeat(10) + pairsOfTen(16);

    private Edge() {
    }

    /** From low to high it is taken, so the answer is another; on either side, near and far, it is refused. */
    static void taken(Due due, String name, int low, int high, long refusal, Call call) {
        int[] within = {low, high, low + (high - low) / 2};
        for (int number : within) {
            long answer = call.with(number);
            due.is(name + " takes " + number + " and answers " + answer, answer == refusal ? 0 : 1, 1);
        }
        int[] beyond = {low - 1, high + 1, Integer.MIN_VALUE, Integer.MAX_VALUE};
        for (int number : beyond) {
            due.is(name + " with " + number, call.with(number), refusal);
        }
    }

    /** So many lines of unlike pairs among ten people: 0 with all others, then 1 with all others, and so on. */
    static String pairsOfTen(int count) {
        StringBuilder lines = new StringBuilder();
        int told = 0;
        for (int one = 0; one < 10; one++) {
            for (int two = one + 1; two < 10 && told < count; two++) {
                lines.append("pair ").append(one).append(' ').append(two).append(" begun 15;");
                told++;
            }
        }
        return lines.toString();
    }
}
