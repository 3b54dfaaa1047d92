import java.util.Arrays;

/** Each promise in ordinary use, by rows worked out from the document by hand; SentenceTest has what is refused. */
public final class PromiseTest {
    private static int wrong = 0;
    private static String promise = "";

    private static void due(String what, Object got, Object want) {
        if (!got.equals(want)) {
            wrong++;
            System.out.println(promise + ": " + what + " answered " + got + ", due is " + want);
        }
    }

    /** All that can be seen of an object at little cost. */
    private static String look(BinStreams x) {
        StringBuilder all = new StringBuilder();
        for (int what = 0; what <= 6; what++) all.append(x.engine(what)).append(' ');
        all.append('|').append(x.size()).append('|');
        for (int i = 0; i < Math.min(x.size(), 3); i++) all.append(x.at(i)).append(' ');
        all.append('|').append(x.about(false, 0)).append(' ').append(x.about(true, 0));
        return all.toString();
    }

    private static void engines(BinStreams x, String where, int range, int low, int waiting, int shifts, int bins) {
        due("the writer " + where, x.engine(0) + " " + x.engine(1) + " " + x.engine(2) + " " + x.engine(3) + " "
                + x.engine(4), range + " " + low + " " + waiting + " " + shifts + " " + bins);
    }

    private static void reading(BinStreams x, String where, int range, int offset) {
        due("the reader " + where, x.engine(5) + " " + x.engine(6), range + " " + offset);
    }

    private static BinStreams started() {
        BinStreams x = new BinStreams();
        x.start();
        return x;
    }

    private static String bytes(BinStreams x) {
        int[] all = new int[x.size()];
        for (int i = 0; i < all.length; i++) all[i] = x.at(i);
        return Arrays.toString(all);
    }

    private static void passes(BinStreams x, String bins) {
        for (char c : bins.toCharArray()) x.pass(c - '0');
    }

    private static BinStreams loadedPasses(String bins) {
        BinStreams x = started();
        passes(x, bins);
        x.finish();
        x.load();
        return x;
    }

    /** The least bytes there are, with other numbers in them, so that the reader sees just these bits. */
    private static BinStreams withBytes(int first, int second) {
        BinStreams x = started();
        x.finish();
        x.alter(0, first);
        x.alter(1, second);
        return x;
    }

    /** 400 bins in few calls. */
    private static BinStreams full() {
        BinStreams x = started();
        for (int i = 0; i < 12; i++) x.golomb(0, false, 65535);
        for (int i = 0; i < 4; i++) x.mark();
        return x;
    }

    private static void newObject() {
        BinStreams x = new BinStreams();
        for (int what = 0; what <= 6; what++) due("engine " + what, x.engine(what), 0);
        for (int c = 0; c < 32; c++) {
            due("the writer's context " + c, x.about(false, c), 0);
            due("the reader's context " + c, x.about(true, c), 0);
        }
        due("size", x.size(), 0);
        x.start();
        for (int c = 0; c < 32; c++) due("the start state of " + c, x.about(false, c), 0);
    }

    private static void set() {
        BinStreams x = new BinStreams();
        x.set(0, 62, 1);
        x.set(31, 0, 1);
        x.set(9, 17, 0);
        due("a context before the start", x.about(false, 0), 0);
        x.start();
        due("context 0", x.about(false, 0), 125);
        due("context 31", x.about(false, 31), 1);
        due("context 9", x.about(false, 9), 34);
        due("context 8", x.about(false, 8), 0);
        x.set(9, 40, 1);
        due("a context of a writer that runs", x.about(false, 9), 34);
        x.finish();
        due("the reader's context before the load", x.about(true, 9), 0);
        x.load();
        due("the reader's context", x.about(true, 9), 81);
        x.set(9, 3, 0);
        due("a context of a reader that runs", x.about(true, 9), 81);
        x.start();
        due("the next writer's context", x.about(false, 9), 6);
    }

    private static void start() {
        BinStreams x = new BinStreams();
        x.start();
        engines(x, "at the start", 510, 0, 0, 0, 0);
        x.put(0, 0);
        x.put(0, 1);
        x.pass(1);
        x.pass(0);
        x.start();
        engines(x, "at a start in the middle", 510, 0, 0, 0, 0);
        due("the context", x.about(false, 0), 0);
        x.finish();
        due("the bytes", bytes(x), "[254, 128]");
        x.load();
        x.start();
        due("size", x.size(), 0);
        reading(x, "stays", 510, 509);
        passes(x, "0000000000");
        x.finish();
        due("the bytes of the next stream", bytes(x), "[0, 63, 160]");
        due("the loaded stream's end", x.ended(), true);
    }

    private static void put() {
        BinStreams x = started();
        x.put(0, 0);
        engines(x, "after one", 270, 0, 0, 0, 1);
        x.put(0, 0);
        engines(x, "after two", 284, 0, 0, 1, 2);
        due("the state", x.about(false, 0), 4);
        x.put(0, 1);
        engines(x, "after three", 256, 312, 0, 2, 3);
        due("the state", x.about(false, 0), 2);
        x.put(0, 1);
        engines(x, "after four", 256, 368, 1, 3, 4);
        due("the state", x.about(false, 0), 0);
        x.put(0, 1);
        engines(x, "after five", 256, 480, 2, 4, 5);
        due("the other bin is likely", x.about(false, 0), 1);
        due("another context", x.about(false, 1), 0);
        BinStreams y = new BinStreams();
        y.set(31, 61, 1);
        y.start();
        y.put(31, 1);
        y.put(31, 1);
        due("a state at its highest", y.about(false, 31), 125);
        y.put(31, 0);
        due("a state that falls", y.about(false, 31), 77);
    }

    private static void pass() {
        BinStreams x = started();
        x.pass(1);
        engines(x, "after 1", 510, 510, 0, 1, 1);
        x.pass(1);
        engines(x, "after 11", 510, 506, 0, 2, 2);
        x.pass(0);
        engines(x, "after 110", 510, 500, 1, 3, 3);
        x.pass(0);
        engines(x, "after 1100", 510, 488, 2, 4, 4);
        x.pass(1);
        engines(x, "after 11001", 510, 462, 0, 5, 5);
    }

    private static void oneNumber(int order, boolean signed, int v, String bins) {
        String call = "golomb(" + order + ", " + signed + ", " + v + ")";
        BinStreams x = started();
        BinStreams y = started();
        due(call, x.golomb(order, signed, v), bins.length());
        passes(y, bins);
        due("the writer after " + call, look(x), look(y));
        x.finish();
        y.finish();
        due("the bytes of " + call, bytes(x), bytes(y));
        x.load();
        due("reading " + call, x.getGolomb(order, signed), v);
        due("the end after " + call, x.ended(), true);
    }

    private static void golomb() {
        oneNumber(0, false, 0, "0");
        oneNumber(0, false, 1, "100");
        oneNumber(0, false, 2, "101");
        oneNumber(0, false, 3, "11000");
        oneNumber(0, false, 13, "1110110");
        oneNumber(0, false, 65534, "1111111111111110" + "111111111111111");
        oneNumber(0, false, 65535, "11111111111111110" + "0000000000000000");
        oneNumber(1, false, 0, "00");
        oneNumber(1, false, 2, "1000");
        oneNumber(2, false, 7, "10011");
        oneNumber(3, false, 7, "0111");
        oneNumber(3, false, 8, "100000");
        oneNumber(4, false, 15, "01111");
        oneNumber(4, false, 16, "1000000");
        oneNumber(4, false, 65535, "1111111111110" + "0000000000001111");
        oneNumber(0, true, 0, "0");
        oneNumber(0, true, 1, "100");
        oneNumber(0, true, -1, "101");
        oneNumber(0, true, 2, "11000");
        oneNumber(2, true, 0, "000");
        oneNumber(2, true, -5, "10110");
        oneNumber(1, true, 7, "110111");
        oneNumber(0, true, 32768, "11111111111111110" + "0000000000000000");
        oneNumber(0, true, -32767, "1111111111111110" + "111111111111111");
    }

    private static void oneCount(int c, int most, int v, String bins) {
        String call = "unary(" + c + ", " + most + ", " + v + ")";
        BinStreams x = started();
        BinStreams y = started();
        due(call, x.unary(c, most, v), bins.length());
        for (int i = 0; i < bins.length(); i++) y.put(i < 3 ? c + i : c + 3, bins.charAt(i) - '0');
        due("the writer after " + call, look(x), look(y));
        for (int i = 0; i < 32; i++) due("context " + i + " after " + call, x.about(false, i), y.about(false, i));
        x.finish();
        y.finish();
        due("the bytes of " + call, bytes(x), bytes(y));
        x.load();
        due("reading " + call, x.getUnary(c, most), v);
        for (int i = 0; i < 32; i++) due("the reader's context " + i, x.about(true, i), x.about(false, i));
        due("the end after " + call, x.ended(), true);
    }

    private static void unary() {
        oneCount(0, 1, 0, "0");
        oneCount(0, 1, 1, "1");
        oneCount(28, 1, 1, "1");
        oneCount(3, 5, 0, "0");
        oneCount(3, 5, 2, "110");
        oneCount(3, 5, 3, "1110");
        oneCount(3, 5, 4, "11110");
        oneCount(3, 5, 5, "11111");
        oneCount(28, 15, 14, "111111111111110");
        oneCount(28, 15, 15, "111111111111111");
        oneCount(0, 15, 9, "1111111110");
    }

    private static void mark() {
        BinStreams x = started();
        x.mark();
        engines(x, "after a mark", 508, 0, 0, 0, 1);
        for (int i = 0; i < 126; i++) x.mark();
        engines(x, "after 127 marks", 256, 0, 0, 0, 127);
        x.mark();
        engines(x, "after 128 marks", 508, 0, 0, 1, 128);
        for (int i = 128; i < 400; i++) x.mark();
        due("bins", x.engine(4), 400);
    }

    private static void finish() {
        BinStreams x = started();
        due("finish of nothing", x.finish(), 2);
        due("its bytes", bytes(x), "[254, 128]");
        engines(x, "after the end", 256, 0, 0, 7, 0);
        BinStreams y = started();
        y.mark();
        y.mark();
        y.finish();
        due("the bytes of two marks", bytes(y), "[252, 128]");
        BinStreams z = full();
        due("finish with 400 bins", z.finish(), 51);
        due("bins after the end", z.engine(4), 400);
        BinStreams w = started();
        passes(w, "110010");
        due("finish of passes", w.finish(), 2);
        // Exactly, low is (50 * 510 + 508) * 128 in the end; from its bit 21 down to bit 8, and a 1: 15 bits.
        due("the bytes of passes", bytes(w), "[203, 50]");
        passesFillBytes();
    }

    /** S shifts make S + 2 bits, and those of the end are 7: with 7 passes the two bytes are just full. */
    private static void passesFillBytes() {
        for (int n = 0; n <= 24; n++) {
            BinStreams x = started();
            passes(x, "0".repeat(n));
            due("finish of " + n + " passes", x.finish(), (n + 9 + 7) / 8);
            due("shifts of " + n + " passes", x.engine(3), n + 7);
        }
    }

    private static void size() {
        BinStreams x = started();
        passes(x, "1111111111111111111111111111");
        due("size before the end", x.size(), 0);
        int bytes = x.finish();
        due("size", x.size(), bytes);
        due("size", x.size(), 5);
        x.load();
        due("size after a load", x.size(), 5);
        x.start();
        due("size after a start", x.size(), 0);
    }

    private static void at() {
        BinStreams x = started();
        x.mark();
        x.mark();
        x.finish();
        due("at(0)", x.at(0), 252);
        due("at(1)", x.at(1), 128);
    }

    private static void alter() {
        BinStreams x = started();
        passes(x, "0000000000");
        x.finish();
        x.load();
        x.alter(0, 255);
        x.alter(2, 0);
        x.alter(1, 77);
        due("the bytes", bytes(x), "[255, 77, 0]");
        for (int i = 0; i < 10; i++) due("what is loaded", x.getPass(), 0);
        due("the loaded end", x.ended(), true);
        due("the bytes after the reading", bytes(x), "[255, 77, 0]");
    }

    private static void load() {
        BinStreams x = withBytes(254, 128);
        x.set(3, 20, 1);
        due("load of offset 509", x.load(), true);
        reading(x, "with offset 509", 510, 509);
        due("the reader's context", x.about(true, 3), 41);
        due("the writer's context", x.about(false, 3), 0);
        x.get(3);
        x.set(3, 21, 0);
        x.alter(0, 255);
        x.alter(1, 127);
        due("load of offset 510", x.load(), false);
        reading(x, "with offset 510", 510, 510);
        due("the reader's context, as if", x.about(true, 3), 42);
        x.alter(1, 128);
        due("load of offset 511", x.load(), false);
        reading(x, "with offset 511", 510, 511);
        x.alter(0, 1);
        due("load of offset 3", x.load(), true);
        reading(x, "with offset 3", 510, 3);
        due("getPass", x.getPass(), 0);
        due("load again", x.load(), true);
        reading(x, "loaded again", 510, 3);
        x.start();
        due("what was loaded, after a start", x.getPass(), 0);
    }

    private static void get() {
        BinStreams x = new BinStreams();
        x.set(0, 62, 1);
        x.start();
        String bins = "11101111001";
        for (char c : bins.toCharArray()) x.put(0, c - '0');
        x.put(1, 1);
        x.finish();
        x.load();
        for (char c : bins.toCharArray()) due("get(0)", x.get(0), c - '0');
        due("get(1)", x.get(1), 1);
        due("the state of 0", x.about(true, 0), x.about(false, 0));
        due("the state of 1", x.about(true, 1), 1);
        due("the end", x.ended(), true);
        // Range 510 has r 240 in state 0: offset 270 is the first that is not the likely bin.
        BinStreams y = withBytes(134, 128);
        y.load();
        due("get with offset 269", y.get(0), 0);
        reading(y, "behind it", 270, 269);
        BinStreams z = withBytes(135, 0);
        z.load();
        due("get with offset 270", z.get(0), 1);
        reading(z, "behind it", 480, 0);
        due("the other bin is likely", z.about(true, 0), 1);
        BinStreams w = withBytes(0, 0);
        w.load();
        for (int i = 0; i < 450; i++) if (w.get(2) != 0) due("get of zeros " + i, 1, 0);
        due("the state", w.about(true, 2), 124);
    }

    private static void getPass() {
        BinStreams x = loadedPasses("1100101");
        for (char c : "1100101".toCharArray()) due("getPass", x.getPass(), c - '0');
        due("the end", x.ended(), true);
        // Offset 255 doubles to 510, which is not less than the range.
        BinStreams y = withBytes(127, 128);
        y.load();
        due("getPass with offset 510", y.getPass(), 1);
        reading(y, "behind it", 510, 0);
        BinStreams z = withBytes(127, 0);
        z.load();
        due("getPass with offset 508", z.getPass(), 0);
        reading(z, "behind it", 510, 508);
        zerosBehindTheLastByte();
    }

    private static void zerosBehindTheLastByte() {
        BinStreams x = withBytes(0, 1);
        x.load();
        for (int i = 0; i < 6; i++) due("getPass of a 0", x.getPass(), 0);
        reading(x, "before the last bit", 510, 0);
        due("getPass of the last bit", x.getPass(), 0);
        reading(x, "with the last bit", 510, 1);
        for (int i = 0; i < 8; i++) due("getPass behind it", x.getPass(), 0);
        reading(x, "8 bits behind", 510, 256);
        due("getPass 9 bits behind", x.getPass(), 1);
        reading(x, "9 bits behind", 510, 2);
    }

    private static void oneWrong(int order, boolean signed, String bins, String behind) {
        BinStreams x = loadedPasses(bins + behind);
        BinStreams y = loadedPasses(bins + behind);
        due("getGolomb of " + bins, x.getGolomb(order, signed), 100000);
        for (int i = 0; i < bins.length(); i++) y.getPass();
        due("what it read of " + bins, look(x), look(y));
        due("load after WRONG", x.load(), true);
        due("getPass of a new load", x.getPass(), 1);
    }

    private static void getGolomb() {
        for (int order = 0; order <= 4; order++) {
            String ones = "1".repeat(16 - order);
            oneWrong(order, false, ones + "1", "1100110011");
            oneWrong(order, true, ones + "1", "0000000000");
            int left = 65535 - ((1 << 16) - (1 << order));
            String last = Integer.toBinaryString(1 << 16 | left).substring(1);
            String above = Integer.toBinaryString(1 << 16 | left + 1).substring(1);
            due("the last number of order " + order, loadedPasses(ones + "0" + last).getGolomb(order, false), 65535);
            due("the last one signed", loadedPasses(ones + "0" + last).getGolomb(order, true), 32768);
            oneWrong(order, false, ones + "0" + above, "101");
            oneWrong(order, true, ones + "0" + "1".repeat(16), "101");
        }
        BinStreams x = started();
        int[] numbers = {0, 1, -1, 2, -2, 300, -300, 32767, 32768, -32767};
        for (int i = 0; i < numbers.length; i++) x.golomb(i % 5, true, numbers[i]);
        x.finish();
        x.load();
        for (int i = 0; i < numbers.length; i++) due("getGolomb", x.getGolomb(i % 5, true), numbers[i]);
        due("the end", x.ended(), true);
    }

    private static void getUnary() {
        BinStreams x = started();
        for (int v = 0; v <= 15; v++) x.unary(2 * v % 29, 15, v);
        x.unary(0, 4, 4);
        x.unary(0, 4, 3);
        x.finish();
        x.load();
        for (int v = 0; v <= 15; v++) due("getUnary", x.getUnary(2 * v % 29, 15), v);
        due("getUnary of the most", x.getUnary(0, 4), 4);
        due("getUnary below the most", x.getUnary(0, 4), 3);
        due("the end", x.ended(), true);
    }

    private static void ended() {
        BinStreams x = started();
        for (int i = 0; i < 128; i++) x.mark();
        x.finish();
        x.load();
        due("a mark", x.ended(), false);
        due("the range behind it", x.engine(5), 508);
        for (int i = 1; i < 127; i++) due("mark " + i, x.ended(), false);
        due("the range behind 127 marks", x.engine(5), 256);
        due("the last mark", x.ended(), false);
        due("the range behind 128 marks", x.engine(5), 508);
        due("the end", x.ended(), true);
        reading(x, "at the end", 506, x.engine(6));
        BinStreams y = withBytes(254, 0);
        y.load();
        due("the end with offset 508", y.ended(), true);
        reading(y, "at the end", 508, 508);
        due("load after the end", y.load(), true);
        due("getPass after it", y.getPass(), 1);
        BinStreams z = withBytes(253, 128);
        z.load();
        due("a mark with offset 507", z.ended(), false);
        reading(z, "behind it", 508, 507);
        due("the end with offset 507", z.ended(), true);
        reading(z, "at the end", 506, 507);
    }

    private static void about() {
        BinStreams x = new BinStreams();
        for (int c = 0; c < 32; c++) x.set(c, 2 * c, c % 2);
        x.start();
        for (int c = 0; c < 32; c++) due("the writer's " + c, x.about(false, c), 4 * c + c % 2);
        for (int c = 0; c < 32; c++) due("the reader's " + c, x.about(true, c), 0);
        x.put(31, 1);
        x.put(30, 1);
        due("the writer's 31", x.about(false, 31), 125);
        due("the writer's 30", x.about(false, 30), 74);
        x.finish();
        x.load();
        due("the reader's 31", x.about(true, 31), 125);
        due("the reader's 30", x.about(true, 30), 120);
        x.get(31);
        x.get(30);
        due("the reader's 30 behind it", x.about(true, 30), 74);
        x.start();
        due("the writer's 30 at a start", x.about(false, 30), 120);
        due("the reader's 30 at a start", x.about(true, 30), 74);
    }

    private static void engine() {
        BinStreams x = new BinStreams();
        x.start();
        passes(x, "1100");
        engines(x, "of 1100", 510, 488, 2, 4, 4);
        reading(x, "that loaded nothing", 0, 0);
        x.finish();
        engines(x, "at the end", 256, 0, 0, 11, 4);
        x.load();
        reading(x, "that loaded", 510, 414);
        x.start();
        engines(x, "at a start", 510, 0, 0, 0, 0);
        reading(x, "at a start", 510, 414);
    }

    public static void main(String[] args) {
        Runnable[] promises = {
            PromiseTest::newObject, PromiseTest::set, PromiseTest::start, PromiseTest::put,
            PromiseTest::pass, PromiseTest::golomb, PromiseTest::unary, PromiseTest::mark,
            PromiseTest::finish, PromiseTest::size, PromiseTest::at, PromiseTest::alter,
            PromiseTest::load, PromiseTest::get, PromiseTest::getPass, PromiseTest::getGolomb,
            PromiseTest::getUnary, PromiseTest::ended, PromiseTest::about, PromiseTest::engine,
        };
        for (int i = 0; i < promises.length; i++) {
            promise = "promise " + (i + 1);
            promises[i].run();
        }
        System.out.println(wrong == 0 ? "the promises hold" : wrong + " answers are not as due");
        if (wrong != 0) System.exit(1);
    }
}
