/** Every number of the table R and of the row T, seen from outside through the range, the shifts and the contexts. */
public final class TableTest {
    private static final String R = """
  128 176 208 240 128 167 197 227 128 158 187 216 123 150 178 205 116 142 169 195 111 135 160 185 105 128 152 175
  100 122 144 166 95 116 137 158 90 110 130 150 85 104 123 142 81 99 117 135 77 94 111 128 73 89 105 122
  69 85 100 116 66 80 95 110 62 76 90 104 59 72 86 99 56 69 81 94 53 65 77 89 51 62 73 85
  48 59 69 80 46 56 66 76 43 53 63 72 41 50 59 69 39 48 56 65 37 45 54 62 35 43 51 59
  33 41 48 56 32 39 46 53 30 37 43 50 29 35 41 48 27 33 39 45 26 31 37 43 24 30 35 41
  23 28 33 39 22 27 32 37 21 26 30 35 20 24 29 33 19 23 27 31 18 22 26 30 17 21 25 28
  16 20 23 27 15 19 22 25 14 18 21 24 14 17 20 23 13 16 19 22 12 15 18 21 12 14 17 20
  11 14 16 19 11 13 15 18 10 12 15 17 10 12 14 16 9 11 13 15 9 11 12 14 8 10 12 14
  8 9 11 13 7 9 11 12 7 9 10 12 7 8 10 11 6 8 9 11 6 7 9 10 6 7 8 9
        """;
    private static final String T = "0 0 1 2 2 4 4 5 6 7 8 9 9 11 11 12 13 13 15 15 16 16 18 18 19 19 21 21 22 22 "
            + "23 24 24 25 26 26 27 27 28 29 29 30 30 30 31 32 32 33 33 33 34 34 35 35 35 36 36 36 37 37 37 38 38";

    private static int wrong = 0;

    private static void due(String what, long got, long want) {
        if (got != want) {
            wrong++;
            System.out.println(what + " is " + got + ", due is " + want);
        }
    }

    private static int[] numbers(String text) {
        String[] words = text.trim().split("\\s+");
        int[] all = new int[words.length];
        for (int i = 0; i < all.length; i++) all[i] = Integer.parseInt(words[i]);
        return all;
    }

    /** Marks take 2 of the range each, and shift nothing down to 256: so each quarter q can be reached. */
    private static void oneDecision(int state, int likely, int marks, int r, int stateBehind, boolean isLikely) {
        String where = "state " + state + ", likely " + likely + ", " + marks + " marks: ";
        int bin = isLikely ? likely : 1 - likely;
        BinStreams x = new BinStreams();
        x.set(7, state, likely);
        x.start();
        for (int i = 0; i < marks; i++) x.mark();
        int rest = 510 - 2 * marks - r;
        x.put(7, bin);
        int range = isLikely ? rest : r;
        int shifts = 0;
        while (range << shifts < 256) shifts++;
        due(where + "range", x.engine(0), range << shifts);
        due(where + "shifts", x.engine(3), shifts);
        int likelyBehind = state == 0 && !isLikely ? 1 - likely : likely;
        due(where + "about", x.about(false, 7), 2 * stateBehind + likelyBehind);
        x.finish();
        due(where + "load", x.load() ? 1 : 0, 1);
        for (int i = 0; i < marks; i++) due(where + "ended", x.ended() ? 1 : 0, 0);
        due(where + "get", x.get(7), bin);
        due(where + "the reader's range", x.engine(5), range << shifts);
        due(where + "the reader's about", x.about(true, 7), 2 * stateBehind + likelyBehind);
        due(where + "ended behind it", x.ended() ? 1 : 0, 1);
    }

    public static void main(String[] args) {
        int[] r = numbers(R);
        int[] t = numbers(T);
        due("numbers of R", r.length, 252);
        due("numbers of T", t.length, 63);
        // The highest and the lowest range of each quarter.
        int[][] marks = {{96, 127}, {64, 95}, {32, 63}, {0, 31}};
        for (int state = 0; state <= 62; state++) {
            for (int q = 0; q < 4; q++) {
                for (int m : marks[q]) {
                    for (int likely = 0; likely < 2; likely++) {
                        oneDecision(state, likely, m, r[4 * state + q], Math.min(state + 1, 62), true);
                        oneDecision(state, likely, m, r[4 * state + q], t[state], false);
                    }
                }
            }
        }
        System.out.println(wrong == 0 ? "the tables are as due" : wrong + " answers are not as due");
        if (wrong != 0) System.exit(1);
    }
}
