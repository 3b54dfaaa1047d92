import java.util.ArrayList;
import java.util.List;

/**
 * Each sentence of the document that names a boundary case, on both sides of the boundary; and each reason for an
 * exception: that it is thrown, that nothing has changed after it, and that the one named first goes before others.
 *
 * Runs of calls are written as texts: "start; 12* mark; put 3 1; passes 1100" (a call for each bin of the last).
 */
public final class SentenceTest {
    private static final int MOST_CALLS = 512;
    private static final String INDEX = "throws.IndexOutOfBoundsException";
    private static final String ARGUMENT = "throws.IllegalArgumentException";
    private static final String STATE = "throws.IllegalStateException";
    private static final int LEAST = Integer.MIN_VALUE;
    private static final int LAST = Integer.MAX_VALUE;

    /** 400 bins in few calls. */
    private static final String FULL = "start; 12* golomb 0 false 65535; 3* mark; pass 1";

    private static final String SETS = "set 0 20 1; set 3 5 0; set 31 62 1";
    private static final String STREAM = "start; put 0 0; put 3 1; passes 110010; mark; put 31 1; unary 4 6 3; "
            + "golomb 1 true -5; passes 1011001110; finish";
    /** Writer and reader both stand in the middle, bits wait, and the start states are neither's. */
    private static final String MIDDLE = SETS + "; " + STREAM + "; alter 1 200; load; get 0; getPass; "
            + "set 0 9 0; set 30 1 1; start; put 0 1; put 31 0; passes 1100";
    /** The writer has ended, its bytes are no more those that the reader has, and the reader stands in the middle. */
    private static final String ENDED = SETS + "; " + STREAM + "; load; get 0; get 3; getPass; alter 0 77; alter 2 3; "
            + "set 0 9 0; set 30 1 1";

    private static final String[][] NOT_WRITING = {
        {"the writer has not started", SETS},
        {"the writer has ended", ENDED},
        {"there would be more than 400 bins", SETS + "; " + FULL},
    };
    private static final String[][] NOT_READING = {
        {"nothing is loaded on a new object", SETS},
        {"nothing is loaded, though bytes are there", SETS + "; " + STREAM},
        {"nothing is loaded by a load that could not", ENDED + "; alter 0 255; load; start; passes 1100"},
        {"the reader has read the end", "start; put 0 1; finish; load; get 0; ended; start; passes 1100"},
        {"the reader has read powers that are WRONG", "start; passes 1111111111111111111; finish; load; "
            + "getGolomb 0 false; start; passes 1100"},
        {"the reader has read a sum that is WRONG", "start; passes 111111111111111101111111111111111; finish; load; "
            + "getGolomb 0 true"},
    };

    /** Between them they show all that an object holds: its numbers, and how writing and reading would go on. */
    private static final String[] LOOKS = {
        "engines; bytes; abouts false; abouts true",
        "put 0 1; put 3 0; pass 1; mark; golomb 1 true -9; unary 2 5 3; put 31 1; finish; bytes; load; engine 6",
        "get 0; getPass; get 3; engine 6; getUnary 2 5; get 31; ended; 24* getPass; engine 5; engine 6; abouts true",
        "getGolomb 1 true; engine 6; 24* ended; engine 5; engine 6",
        "start; engines; abouts false; finish; bytes; load; abouts true",
        "load; engine 5; engine 6; abouts true; 40* getPass; engine 6",
    };

    private static int wrong = 0;
    private static int rows = 0;
    private static String sentence = "";

    /** One object, and how many calls it has had. */
    private static final class Asked {
        final BinStreams x = new BinStreams();
        int calls = 0;

        String ask(String call) {
            calls++;
            if (calls > MOST_CALLS) throw new AssertionError("too many calls for one object: " + call);
            String[] w = call.split(" ");
            try {
                return answer(w[0], w);
            } catch (RuntimeException e) {
                return "throws." + e.getClass().getSimpleName();
            }
        }

        private static int n(String word) {
            return Integer.parseInt(word);
        }

        private String answer(String name, String[] w) {
            switch (name) {
                case "set": x.set(n(w[1]), n(w[2]), n(w[3])); return "done";
                case "start": x.start(); return "done";
                case "put": x.put(n(w[1]), n(w[2])); return "done";
                case "pass": x.pass(n(w[1])); return "done";
                case "golomb": return "" + x.golomb(n(w[1]), w[2].equals("true"), n(w[3]));
                case "unary": return "" + x.unary(n(w[1]), n(w[2]), n(w[3]));
                case "mark": x.mark(); return "done";
                case "finish": return "" + x.finish();
                case "size": return "" + x.size();
                case "at": return "" + x.at(n(w[1]));
                case "alter": x.alter(n(w[1]), n(w[2])); return "done";
                case "load": return "" + x.load();
                case "get": return "" + x.get(n(w[1]));
                case "getPass": return "" + x.getPass();
                case "getGolomb": return "" + x.getGolomb(n(w[1]), w[2].equals("true"));
                case "getUnary": return "" + x.getUnary(n(w[1]), n(w[2]));
                case "ended": return "" + x.ended();
                case "about": return "" + x.about(w[1].equals("true"), n(w[2]));
                case "engine": return "" + x.engine(n(w[1]));
                default: throw new AssertionError("no such call: " + name);
            }
        }

        /** The answers of a whole run, a space between them. */
        String askAll(String run) {
            StringBuilder all = new StringBuilder();
            for (String call : calls(run)) all.append(all.length() == 0 ? "" : " ").append(ask(call));
            return all.toString();
        }

        private List<String> calls(String run) {
            List<String> all = new ArrayList<>();
            for (String part : run.isEmpty() ? new String[0] : run.split("; ")) {
                int star = part.indexOf("* ");
                int times = star < 0 ? 1 : n(part.substring(0, star));
                for (int i = 0; i < times; i++) addCalls(all, part.substring(star < 0 ? 0 : star + 2));
            }
            return all;
        }

        private void addCalls(List<String> all, String part) {
            String[] w = part.split(" ");
            if (w[0].equals("passes")) for (char bin : w[1].toCharArray()) all.add("pass " + bin);
            else if (w[0].equals("engines")) for (int i = 0; i <= 6; i++) all.add("engine " + i);
            else if (w[0].equals("abouts")) for (int i = 0; i <= 31; i++) all.add("about " + w[1] + " " + i);
            else all.add(part);
        }
    }

    private static void due(String what, String got, String want) {
        rows++;
        if (!got.equals(want)) {
            wrong++;
            System.out.println(sentence + ": " + what + " answered " + got + ", due is " + want);
        }
    }

    /** An object after a run in which no call may be refused. */
    private static Asked after(String run) {
        Asked object = new Asked();
        String answers = object.askAll(run);
        if (answers.contains("throws.")) due("a call on the way, in " + run, answers, "no exception");
        return object;
    }

    /** The answers to the last calls of a run. */
    private static void row(String run, String lastCalls, String want) {
        due(run + "; " + lastCalls, after(run).askAll(lastCalls), want);
    }

    /** Range, low, waiting bits, shifts and bins of the writer. */
    private static void writer(String run, String want) {
        row(run, "engine 0; engine 1; engine 2; engine 3; engine 4", want);
    }

    /** Range and offset of the reader. */
    private static void reader(String run, String want) {
        row(run, "engine 5; engine 6", want);
    }

    private static String bytesOf(Asked object) {
        int size = Integer.parseInt(object.ask("size"));
        StringBuilder all = new StringBuilder();
        for (int i = 0; i < size; i++) all.append(i == 0 ? "" : " ").append(object.ask("at " + i));
        return all.toString();
    }

    private static void bytes(String run, String want) {
        due("the bytes after " + run, bytesOf(after(run)), want);
    }

    private static String look(String run, String refused, String look) {
        Asked object = after(run);
        if (!refused.isEmpty()) object.askAll(refused);
        StringBuilder all = new StringBuilder();
        for (String part : look.split("; ")) {
            all.append(part.equals("bytes") ? bytesOf(object) : object.askAll(part)).append("; ");
        }
        return all.toString();
    }

    /** Two runs after which nothing is different. */
    private static void same(String run, String other) {
        for (String look : LOOKS) due("after " + run + ", " + look, look(run, "", look), look(other, "", look));
    }

    private static void refused(String run, String call, String want) {
        row(run, call, want);
        for (String look : LOOKS) {
            due("after " + run + " and the refused " + call + ", " + look, look(run, call, look), look(run, "", look));
        }
    }

    private static void refusedForEach(String[][] reasons, String call, String want) {
        String before = sentence;
        for (String[] reason : reasons) {
            sentence = before + " (" + reason[0] + ")";
            refused(reason[1], call, want);
        }
        sentence = before;
    }

    /** A reader of just these bits, since the stream with no bins has two bytes. */
    private static String withBytes(int first, int second) {
        return "start; finish; alter 0 " + first + "; alter 1 " + second;
    }

    private static String loadedPasses(String bins) {
        return "start; passes " + bins + "; finish; load";
    }

    // ---- Terms

    private static void bins() {
        sentence = "A BIN is 0 or 1";
        writer("start; put 0 0", "270 0 0 0 1");
        writer("start; put 0 1", "480 28 1 1 1");
        writer("start; pass 0", "510 0 0 1 1");
        writer("start; pass 1", "510 510 0 1 1");
        row("set 0 0 0; start", "about false 0", "0");
        row("set 0 0 1; start", "about false 0", "1");
        for (int none : new int[] {-1, 2, LEAST, LAST}) {
            refused(MIDDLE, "put 0 " + none, ARGUMENT);
            refused(MIDDLE, "pass " + none, ARGUMENT);
            refused(MIDDLE, "set 0 0 " + none, ARGUMENT);
        }
    }

    private static void contexts() {
        sentence = "CONTEXTS are 0 .. 31";
        for (int c : new int[] {0, 31}) {
            row("set " + c + " 7 1; start", "about false " + c, "15");
            row("start; put " + c + " 1", "about false " + c, "1");
            row("start; put " + c + " 1; finish; load; get " + c, "about true " + c, "1");
        }
        for (int none : new int[] {-1, 32, LEAST, LAST}) {
            refused(MIDDLE, "set " + none + " 0 0", INDEX);
            refused(MIDDLE, "put " + none + " 0", INDEX);
            refused(MIDDLE, "get " + none, INDEX);
            refused(MIDDLE, "about false " + none, INDEX);
            refused(MIDDLE, "about true " + none, INDEX);
        }
        sentence = "writer and reader have contexts of their own";
        String read = "set 4 10 0; start; put 4 1; put 4 1; finish; set 4 20 1; load";
        row(read, "about false 4; about true 4", "12 41");
        row(read + "; get 4", "about false 4", "12");
        row(read + "; start; put 4 0", "about false 4; about true 4", "33 41");
    }

    private static void states() {
        sentence = "a STATE 0 .. 62";
        row("set 5 0 0; start", "about false 5", "0");
        row("set 5 62 0; start", "about false 5", "124");
        for (int none : new int[] {-1, 63, LEAST, LAST}) refused(MIDDLE, "set 5 " + none + " 0", ARGUMENT);
        sentence = "START states are set, at first 0 and 0";
        row("start", "abouts false", "0 ".repeat(32).trim());
        row("start; finish; load", "abouts true", "0 ".repeat(32).trim());
    }

    /** One decision, written and then read, and what the context is behind it. */
    private static void learns(int state, int likely, int bin, int about) {
        String written = "set 9 " + state + " " + likely + "; start; put 9 " + bin;
        row(written, "about false 9", "" + about);
        row(written + "; finish; load; get 9", "about true 9", "" + about);
    }

    private static void learning() {
        sentence = "LEARNING: when the bin is the likely one, the state grows by 1, but not beyond 62";
        learns(0, 0, 0, 2);
        learns(0, 1, 1, 3);
        learns(60, 0, 0, 122);
        learns(61, 0, 0, 124);
        learns(62, 0, 0, 124);
        learns(61, 1, 1, 125);
        learns(62, 1, 1, 125);
        sentence = "LEARNING: otherwise, if the state is 0, the other bin is the likely one from now on";
        learns(0, 0, 1, 1);
        learns(0, 1, 0, 0);
        learns(1, 0, 1, 0);
        learns(1, 1, 0, 1);
        learns(2, 0, 1, 2);
        row("start; put 9 1; put 9 1", "about false 9", "3");
        sentence = "LEARNING: then the state s becomes T(s)";
        learns(61, 0, 1, 76);
        learns(62, 0, 1, 76);
        learns(62, 1, 0, 77);
        sentence = "LEARNING is for decisions alone";
        row("set 0 7 1; start; pass 1; pass 0; golomb 0 false 9; mark; finish", "about false 0", "15");
        row("set 0 7 1; " + loadedPasses("10") + "; getPass; getPass; ended", "about true 0", "15");
    }

    private static void writerStarts() {
        sentence = "THE WRITER has a RANGE and a LOW, 510 and 0 when it starts, no WAITING bits, no SHIFTS";
        writer("", "0 0 0 0 0");
        writer("start", "510 0 0 0 0");
        writer(MIDDLE + "; start", "510 0 0 0 0");
        writer(ENDED + "; start", "510 0 0 0 0");
        writer(FULL + "; start", "510 0 0 0 0");
    }

    private static void giving() {
        sentence = "TO GIVE a bit: it is written, but for the first one since the start";
        bytes("start; finish", "254 128");
        bytes("start; pass 0; finish", "127 64");
        bytes("start; passes 00; finish", "63 160");
        sentence = "TO GIVE: the first one is left out in every stream";
        bytes("start; passes 00; finish; start; pass 0; finish", "127 64");
        bytes("start; passes 11001; start; pass 0; finish", "127 64");
        sentence = "TO GIVE: then as many of the other bit as are waiting, behind the one that is left out, too";
        writer("start; put 0 1", "480 28 1 1 1");
        bytes("start; put 0 1; finish", "254 192");
        writer("start; put 0 1; pass 0", "480 56 0 2 2");
        sentence = "TO GIVE: none waits then";
        writer("start; passes 1100", "510 488 2 4 4");
        writer("start; passes 11001", "510 462 0 5 5");
        writer("start; passes 1100; finish", "256 0 0 11 4");
    }

    private static void shifting() {
        String first = "set 1 43 0; set 2 44 0; set 3 31 0; set 4 41 0; start; ";
        sentence = "TO SHIFT: if low is less than 256, 0 is given (255, and 256, which waits)";
        writer(first + "put 0 0; put 1 1", "480 480 4 5 2");
        writer(first + "put 0 0; put 2 1", "448 0 0 5 2");
        sentence = "TO SHIFT: if it is 512 or more, 1 is given (512, and 511, which waits)";
        writer(first + "put 0 0; pass 1; put 3 1", "464 496 4 5 3");
        writer(first + "pass 1; put 4 1", "448 512 0 5 2");
        writer(first + "pass 1; put 4 1; put 0 0", "416 0 0 6 3");
        sentence = "It shifts as long as range is less than 256 (255 does, 256 does not)";
        writer(first + "put 0 0; put 1 0", "510 0 0 1 2");
        writer(first + "put 0 0; put 2 0", "256 0 0 0 2");
        reader(first + "put 0 0; put 1 0; finish; load; get 0; get 1", "510 509");
        reader(first + "put 0 0; put 2 0; finish; load; get 0; get 2", "256 255");
    }

    /** A decision of state 0 behind a range that is reached by marks, an odd one behind a decision of state 62. */
    private static void quarter(int range, int rangeBehind) {
        int marks = (range % 2 == 0 ? 510 - range : 501 - range) / 2;
        String first = "set 1 62 0; start" + (range % 2 == 0 ? "" : "; put 1 0");
        String written = first + "; " + marks + "* mark";
        row(written, "engine 0", "" + range);
        row(written + "; put 0 0", "engine 0", "" + rangeBehind);
        String read = written + "; put 0 0; finish; load" + (range % 2 == 0 ? "" : "; get 1") + "; " + marks + "* ended";
        row(read, "engine 5; get 0; engine 5", range + " 0 " + rangeBehind);
    }

    private static void decision() {
        sentence = "A DECISION: q is range / 64 % 4 (rounded down)";
        quarter(510, 270);
        quarter(448, 416);
        quarter(447, 478);
        quarter(384, 352);
        quarter(383, 414);
        quarter(320, 288);
        quarter(319, 382);
        quarter(257, 258);
        quarter(256, 256);
        sentence = "A DECISION: if the bin is not the likely one, low grows by range, and range is r";
        writer("set 0 0 1; start; put 0 1", "270 0 0 0 1");
        writer("set 0 0 1; start; put 0 0", "480 28 1 1 1");
    }

    private static void goingBy() {
        String first = "set 1 43 0; set 2 41 0; set 3 32 0; set 4 48 0; start; ";
        sentence = "A bin that GOES BY: if low is less than 512, 0 is given (511, and 512, which waits)";
        writer(first + "put 0 1; put 1 0; pass 1", "455 511 0 2 3");
        writer(first + "put 2 1; pass 1", "448 0 5 5 2");
        sentence = "A bin that GOES BY: if low is 1024 or more, 1 is given (1024, and 1023, which waits)";
        writer(first + "put 0 0; put 3 1; put 4 0; pass 1", "415 511 4 5 4");
        writer(first + "pass 1; put 2 1; pass 0", "448 0 0 6 3");
    }

    private static void marks() {
        sentence = "A MARK: range falls by 2, and it shifts (255 and 254 do, 256 does not)";
        String odd = "set 1 46 0; start; put 0 0; put 1 0";
        writer("start; mark", "508 0 0 0 1");
        writer("start; 127* mark", "256 0 0 0 127");
        writer("start; 128* mark", "508 0 0 1 128");
        writer(odd, "257 0 0 0 2");
        writer(odd + "; mark", "510 0 0 1 3");
        reader("start; 128* mark; finish; load; 127* ended", "256 253");
        reader("start; 128* mark; finish; load; 128* ended", "508 507");
        reader(odd + "; mark; finish; load; get 0; get 1; ended", "510 509");
    }

    private static void end() {
        sentence = "THE END: range falls by 2, low grows by range, range is 2, it shifts";
        writer("start; finish", "256 0 0 7 0");
        writer("start; 127* mark; finish", "256 256 0 7 127");
        bytes("start; 127* mark; finish", "127 128");
        sentence = "THE END: the bits low / 256 % 2 and 1 are written as they are";
        row("set 1 3 0; start; put 0 1; put 1 0; finish", "engine 1; at 0; at 1", "128 203 64");
        row("set 1 4 0; start; put 0 1; put 1 0; finish", "engine 1; at 0; at 1", "384 205 192");
        sentence = "THE END: bytes hold eight bits each, the first one highest, the last byte filled with 0";
        bytes("start; passes 000000; finish", "3 250");
        bytes("start; passes 0000000; finish", "1 253");
        bytes("start; passes 00000000; finish", "0 254 128");
        bytes("start; passes 000000000000000; finish", "0 1 253");
        bytes("start; passes 0000000000000000; finish", "0 0 254 128");
        row("start; passes 0000000", "finish", "2");
        row("start; passes 00000000", "finish", "3");
    }

    private static void readerLoads() {
        sentence = "THE READER: 510, and the number of the first nine bits";
        reader(withBytes(0, 127) + "; load", "510 0");
        reader(withBytes(0, 128) + "; load", "510 1");
        reader(withBytes(128, 0) + "; load", "510 256");
        sentence = "Behind the last byte come bits 0";
        reader(withBytes(0, 1) + "; load; 6* getPass", "510 0");
        reader(withBytes(0, 1) + "; load; 7* getPass", "510 1");
        reader(withBytes(0, 1) + "; load; 8* getPass", "510 2");
        reader(withBytes(0, 1) + "; load; 15* getPass", "510 256");
        row(withBytes(0, 1) + "; load; 15* getPass", "getPass; engine 6", "1 2");
        sentence = "Behind the last byte come bits 0, not those of a longer stream before";
        String longer = loadedPasses("1".repeat(60)) + "; ";
        reader(longer + withBytes(0, 1) + "; load; 15* getPass", "510 256");
        bytes(longer + "start; finish", "254 128");
    }

    private static void readerDecides() {
        sentence = "A decision that is read: if the offset is not less than range, the bin is not the likely one";
        row(withBytes(134, 128) + "; load", "engine 6; get 0; engine 5; engine 6; about true 0", "269 0 270 269 2");
        row(withBytes(135, 0) + "; load", "engine 6; get 0; engine 5; engine 6; about true 0", "270 1 480 0 1");
        row("set 0 0 1; " + withBytes(134, 128) + "; load", "get 0; about true 0", "1 3");
        row("set 0 0 1; " + withBytes(135, 0) + "; load", "get 0; about true 0", "0 0");
        sentence = "A bin that goes by, read: if the offset is not less than range, the bin is 1";
        row(withBytes(127, 64) + "; load", "engine 6; getPass; engine 5; engine 6", "254 0 510 509");
        row(withBytes(127, 128) + "; load", "engine 6; getPass; engine 5; engine 6", "255 1 510 0");
        row(withBytes(127, 192) + "; load", "engine 6; getPass; engine 5; engine 6", "255 1 510 1");
        sentence = "A mark or the end: range falls by 2; if the offset is not less, it is THE END";
        row(withBytes(253, 128) + "; load", "engine 6; ended; engine 5; engine 6", "507 false 508 507");
        row(withBytes(254, 0) + "; load", "engine 6; ended; engine 5; engine 6", "508 true 508 508");
        row(withBytes(253, 128) + "; load; ended", "ended; engine 5; engine 6", "true 506 507");
        sentence = "A mark or the end: otherwise it shifts (at the end it does not)";
        row("start; 127* mark; finish; load; 127* ended", "engine 5; engine 6; ended; engine 5; engine 6",
                "256 255 true 254 255");
        row("start; 128* mark; finish; load; 127* ended", "engine 5; engine 6; ended; engine 5; engine 6",
                "256 253 false 508 507");
    }

    // ---- Numbers as bins

    private static void oneNumber(int order, boolean signed, int v, String bins) {
        String golomb = "golomb " + order + " " + signed + " " + v;
        row("start", golomb, "" + bins.length());
        same("start; " + golomb, "start; passes " + bins);
        row(loadedPasses(bins), "getGolomb " + order + " " + signed, "" + v);
        same(loadedPasses(bins + "10110") + "; getGolomb " + order + " " + signed,
                loadedPasses(bins + "10110") + "; " + bins.length() + "* getPass");
    }

    private static String bits(int length, int number) {
        return length == 0 ? "" : Integer.toBinaryString(1 << length | number).substring(1);
    }

    private static void numbers() {
        sentence = "A number of ORDER k: as long as v is 2^k or more, a bin 1";
        for (int k = 0; k <= 4; k++) {
            int one = 1 << k;
            int two = one + 2 * one;
            oneNumber(k, false, one - 1, "0" + "1".repeat(k));
            oneNumber(k, false, one, "10" + "0".repeat(k + 1));
            oneNumber(k, false, two - 1, "10" + "1".repeat(k + 1));
            oneNumber(k, false, two, "110" + "0".repeat(k + 2));
        }
        sentence = "then the k lowest bits of v, the highest first";
        oneNumber(3, false, 6, "0110");
        oneNumber(2, false, 4 + 1, "10001");
        sentence = "A number v (0 .. 65535)";
        for (int k = 0; k <= 4; k++) {
            int left = (1 << k) - 1;
            oneNumber(k, false, 0, "0" + "0".repeat(k));
            oneNumber(k, false, 65535, "1".repeat(16 - k) + "0" + bits(16, left));
            refused(MIDDLE, "golomb " + k + " false -1", ARGUMENT);
            refused(MIDDLE, "golomb " + k + " false 65536", ARGUMENT);
        }
        oneNumber(0, false, 65534, "1".repeat(15) + "0" + "1".repeat(15));
        refused(MIDDLE, "golomb 0 false " + LEAST, ARGUMENT);
        refused(MIDDLE, "golomb 0 false " + LAST, ARGUMENT);
        sentence = "ORDER k (0 .. 4)";
        for (int none : new int[] {-1, 5, 31, 32, LEAST, LAST}) {
            refused(MIDDLE, "golomb " + none + " false 0", ARGUMENT);
            refused(MIDDLE, "golomb " + none + " true 0", ARGUMENT);
            refused(MIDDLE, "getGolomb " + none + " false", ARGUMENT);
            refused(MIDDLE, "getGolomb " + none + " true", ARGUMENT);
        }
    }

    private static void signed() {
        sentence = "SIGNED: written as 2 v - 1, if it is above 0, otherwise as -2 v";
        for (int k = 0; k <= 4; k++) oneNumber(k, true, 0, "0" + "0".repeat(k));
        oneNumber(0, true, 1, "100");
        oneNumber(0, true, -1, "101");
        oneNumber(0, true, 2, "11000");
        oneNumber(0, true, -2, "11001");
        oneNumber(4, true, 8, "01111");
        oneNumber(4, true, -8, "1000000");
        sentence = "SIGNED: v (-32767 .. 32768)";
        for (int k = 0; k <= 4; k++) {
            int left = (1 << k) - 1;
            oneNumber(k, true, 32768, "1".repeat(16 - k) + "0" + bits(16, left));
            refused(MIDDLE, "golomb " + k + " true 32769", ARGUMENT);
            refused(MIDDLE, "golomb " + k + " true -32768", ARGUMENT);
        }
        oneNumber(0, true, -32767, "1".repeat(15) + "0" + "1".repeat(15));
        oneNumber(1, true, -32767, "1".repeat(15) + "0" + bits(16, 0));
        refused(MIDDLE, "golomb 0 true " + LEAST, ARGUMENT);
        refused(MIDDLE, "golomb 0 true " + LAST, ARGUMENT);
        sentence = "SIGNED: numbers without a sign keep their own bounds";
        row("start", "golomb 0 true -1; golomb 0 false 32769; golomb 0 false 32768", "3 31 31");
    }

    /** A count as decisions: contexts of its own for three bins, and one for all further. */
    private static void oneCount(int c, int most, int v, String bins) {
        StringBuilder puts = new StringBuilder("start");
        StringBuilder gets = new StringBuilder();
        for (int i = 0; i < bins.length(); i++) {
            int context = i == 0 ? c : i == 1 ? c + 1 : i == 2 ? c + 2 : c + 3;
            puts.append("; put ").append(context).append(' ').append(bins.charAt(i));
            gets.append("; get ").append(context);
        }
        row("start", "unary " + c + " " + most + " " + v, "" + bins.length());
        same("start; unary " + c + " " + most + " " + v, puts.toString());
        String loaded = puts + "; passes 1011001; finish; load";
        row(loaded, "getUnary " + c + " " + most, "" + v);
        same(loaded + "; getUnary " + c + " " + most, loaded + gets);
    }

    private static void counts() {
        sentence = "A COUNT v: v bins 1, and then 0, if v is less than m";
        for (int m = 1; m <= 15; m++) {
            oneCount(2, m, m - 1, "1".repeat(m - 1) + "0");
            oneCount(2, m, m, "1".repeat(m));
        }
        oneCount(2, 15, 0, "0");
        sentence = "decisions with the contexts c, c + 1, c + 2, and c + 3 for all further ones";
        row("start; unary 4 15 1", "about false 4; about false 5; about false 6; about false 7", "1 2 0 0");
        row("start; unary 4 15 2", "about false 4; about false 5; about false 6; about false 7", "1 1 2 0");
        row("start; unary 4 15 3", "about false 4; about false 5; about false 6; about false 7", "1 1 1 2");
        row("start; unary 4 15 4", "about false 4; about false 5; about false 6; about false 7", "1 1 1 0");
        row("start; unary 4 15 5", "about false 7; about false 8", "1 0");
        sentence = "c 0 .. 28";
        oneCount(0, 5, 5, "11111");
        oneCount(28, 5, 5, "11111");
        for (int none : new int[] {-1, 29, 31, 32, LEAST, LAST}) {
            refused(MIDDLE, "unary " + none + " 1 0", INDEX);
            refused(MIDDLE, "getUnary " + none + " 1", INDEX);
        }
        sentence = "m 1 .. 15";
        for (int none : new int[] {0, -1, 16, LEAST, LAST}) {
            refused(MIDDLE, "unary 0 " + none + " 0", ARGUMENT);
            refused(MIDDLE, "getUnary 0 " + none, ARGUMENT);
        }
        sentence = "A COUNT v of at most m";
        for (int none : new int[] {-1, 5, LEAST, LAST}) refused(MIDDLE, "unary 0 4 " + none, ARGUMENT);
        refused(MIDDLE, "unary 0 1 2", ARGUMENT);
        refused(MIDDLE, "unary 0 15 16", ARGUMENT);
    }

    /** A stream that runs and has so many bins, in few calls. */
    private static String filled(int bins) {
        return "start; " + bins / 33 + "* golomb 0 false 65535; " + bins % 33 + "* mark";
    }

    private static void fits(String call, int bins) {
        row(filled(400 - bins), "engine 4", "" + (400 - bins));
        row(filled(400 - bins) + "; " + call, "engine 4", "400");
        refused(filled(401 - bins), call, STATE);
        refused(FULL, call, STATE);
    }

    private static void limit() {
        sentence = "A stream has at most 400 bins";
        row("start; 399* put 0 0", "put 0 0; engine 4; put 0 0; engine 4", "done 400 " + STATE + " 400");
        row("start; 399* pass 0", "pass 0; engine 4; pass 0; engine 4", "done 400 " + STATE + " 400");
        sentence = "A stream has at most 400 bins, marks among them";
        row("start; 399* mark", "mark; engine 4; mark; engine 4", "done 400 " + STATE + " 400");
        sentence = "A stream has at most 400 bins: just enough room for a call, and one bin less";
        fits("put 0 1", 1);
        fits("pass 1", 1);
        fits("mark", 1);
        fits("golomb 0 false 0", 1);
        fits("golomb 0 true 1", 3);
        fits("golomb 2 false 3", 3);
        fits("golomb 0 false 65535", 33);
        fits("golomb 4 true 32768", 29);
        fits("unary 0 1 1", 1);
        fits("unary 0 15 0", 1);
        fits("unary 0 3 3", 3);
        fits("unary 0 15 2", 3);
        fits("unary 28 15 14", 15);
        fits("unary 28 15 15", 15);
        sentence = "Each stream has 400 bins of its own, and the end needs no room";
        row(FULL, "finish; engine 4; load", "51 400 true");
        writer(FULL + "; start; mark", "508 0 0 0 1");
        sentence = "A stream of 400 bins is read to its end";
        row(FULL + "; finish; load; 12* getGolomb 0 false; 3* ended", "getPass; ended", "1 true");
        sentence = "The limit is the stream's: reading is not refused behind 400 bins";
        row(withBytes(0, 0) + "; load; 400* getPass", "getPass; get 0; ended", "0 0 false");
    }

    private static void wrongNumbers() {
        for (boolean sign : new boolean[] {false, true}) {
            for (int k = 0; k <= 4; k++) {
                String get = "getGolomb " + k + " " + sign;
                String most = sign ? "32768" : "65535";
                String ones = "1".repeat(16 - k);
                int left = (1 << k) - 1;
                sentence = "A number is WRONG as soon as the powers for its bins 1 make more than 65535";
                wrongNumber(ones + "1", "0110", get);
                wrongNumber(ones + "1", "1111", get);
                row(loadedPasses(ones + "0" + bits(16, left)), get, most);
                sentence = "A number is WRONG if it is above 65535 in the end";
                row(loadedPasses(ones + "0" + bits(16, left) + "1"), get + "; getPass; ended", most + " 1 true");
                wrongNumber(ones + "0" + bits(16, left + 1), "0110", get);
                wrongNumber(ones + "0" + bits(16, 65535), "1001", get);
            }
        }
        sentence = "then the reader reads no more, until it loads again";
        row(loadedPasses("1".repeat(20)) + "; getGolomb 0 false", "getPass; load; getPass", STATE + " true 1");
    }

    /** It has read just its own bins then, and no more can be read. */
    private static void wrongNumber(String bins, String behind, String get) {
        String loaded = loadedPasses(bins + behind);
        row(loaded, get, "100000");
        String passes = after(loaded + "; " + bins.length() + "* getPass").askAll("engine 5; engine 6");
        reader(loaded + "; " + get, passes);
        row(loaded + "; " + get, "getPass; get 0; getGolomb 0 false; getUnary 0 1; ended",
                (STATE + " ").repeat(5).trim());
    }

    // ---- Promises

    private static void newObject() {
        sentence = "promise 1, a new object: all start states 0, likely bins 0; nothing is written or loaded";
        row("", "engines", "0 0 0 0 0 0 0");
        row("", "abouts false", "0 ".repeat(32).trim());
        row("", "abouts true", "0 ".repeat(32).trim());
        row("", "size; at 0; load; getPass; start; finish; load; ended",
                "0 " + INDEX + " " + STATE + " " + STATE + " done 2 true true");
    }

    private static void set() {
        sentence = "promise 2, set: for writers that start from now on";
        row("set 6 30 1", "about false 6; about true 6", "0 0");
        row("set 6 30 1; start", "about false 6; about false 5; about false 7", "61 0 0");
        row("start; set 6 30 1", "about false 6; start; about false 6", "0 done 61");
        row("set 6 30 1; set 6 62 0; start", "about false 6", "124");
        row("set 6 30 1; start; put 6 1; start", "about false 6", "61");
        sentence = "promise 2, set: for readers that load from now on";
        row("start; finish; set 6 30 1", "about true 6; load; about true 6", "0 true 61");
        row("start; finish; load; set 6 30 1", "about true 6; load; about true 6", "0 true 61");
        sentence = "promise 2, set: IndexOutOfBoundsException goes before IllegalArgumentException";
        for (int none : new int[] {-1, 32}) {
            refused(MIDDLE, "set " + none + " 63 0", INDEX);
            refused(MIDDLE, "set " + none + " -1 1", INDEX);
            refused(MIDDLE, "set " + none + " 0 2", INDEX);
            refused(MIDDLE, "set " + none + " 63 -1", INDEX);
        }
        refused(MIDDLE, "set 4 63 2", ARGUMENT);
    }

    private static void start() {
        sentence = "promise 3, start: the writer starts, without bytes; those of the stream before are gone";
        row(ENDED + "; start", "size; at 0; alter 0 0; load",
                "0 " + INDEX + " " + INDEX + " " + STATE);
        bytes(ENDED + "; start; finish", "254 128");
        bytes(MIDDLE + "; start; finish", "254 128");
        bytes(FULL + "; start; finish", "254 128");
        sentence = "promise 3, start: what a reader loaded stays";
        String loaded = loadedPasses("110010111000101") + "; getPass";
        row(loaded + "; start", "engine 5; engine 6", after(loaded).askAll("engine 5; engine 6"));
        row(loaded + "; start; passes 0000000000", "14* getPass; ended", "1 0 0 1 0 1 1 1 0 0 0 1 0 1 true");
        row(loaded + "; start; finish", "14* getPass; ended", "1 0 0 1 0 1 1 1 0 0 0 1 0 1 true");
        row("start; put 3 1; put 3 1; finish; load; get 3; set 3 9 0; start", "about true 3; get 3; about true 3",
                "1 1 3");
    }

    private static void put() {
        sentence = "promise 4, put: IndexOutOfBoundsException when there is no such context, before all others";
        for (int none : new int[] {-1, 32}) {
            refused(MIDDLE, "put " + none + " 1", INDEX);
            refused(MIDDLE, "put " + none + " 2", INDEX);
            refusedForEach(NOT_WRITING, "put " + none + " 1", INDEX);
            refusedForEach(NOT_WRITING, "put " + none + " -1", INDEX);
        }
        sentence = "promise 4, put: IllegalArgumentException when bin is none, before IllegalStateException";
        for (int none : new int[] {-1, 2}) refusedForEach(NOT_WRITING, "put 31 " + none, ARGUMENT);
        sentence = "promise 4, put: IllegalStateException";
        for (int c : new int[] {0, 3, 31}) refusedForEach(NOT_WRITING, "put " + c + " 1", STATE);
        refusedForEach(NOT_WRITING, "put 0 0", STATE);
    }

    private static void pass() {
        sentence = "promise 5, pass: IllegalArgumentException when bin is none, before IllegalStateException";
        for (int none : new int[] {-1, 2}) refusedForEach(NOT_WRITING, "pass " + none, ARGUMENT);
        sentence = "promise 5, pass: IllegalStateException as for put";
        refusedForEach(NOT_WRITING, "pass 0", STATE);
        refusedForEach(NOT_WRITING, "pass 1", STATE);
    }

    private static void golomb() {
        sentence = "promise 6, golomb: IllegalArgumentException when order or v are none, before IllegalStateException";
        for (String none : new String[] {"-1 false 0", "5 false 0", "5 true 0", "0 false -1", "0 false 65536",
            "4 true -32768", "4 true 32769", "5 false -1"}) {
            refused(MIDDLE, "golomb " + none, ARGUMENT);
            refusedForEach(NOT_WRITING, "golomb " + none, ARGUMENT);
        }
        sentence = "promise 6, golomb: IllegalStateException as for put";
        for (String v : new String[] {"0 false 0", "0 false 65535", "4 true -32767", "4 true 32768"}) {
            refusedForEach(NOT_WRITING, "golomb " + v, STATE);
        }
    }

    private static void unary() {
        sentence = "promise 7, unary: IndexOutOfBoundsException when c is not 0 .. 28, before all others";
        for (String none : new String[] {"-1 1 0", "29 1 0", "29 0 0", "29 16 0", "29 4 5", "-1 4 -1", "29 0 5"}) {
            refused(MIDDLE, "unary " + none, INDEX);
            refusedForEach(NOT_WRITING, "unary " + none, INDEX);
        }
        sentence = "promise 7, unary: IllegalArgumentException when most or v are none, before IllegalStateException";
        for (String none : new String[] {"0 0 0", "28 16 0", "28 -1 -1", "0 1 2", "0 15 16", "28 4 -1", "0 16 16"}) {
            refused(MIDDLE, "unary " + none, ARGUMENT);
            refusedForEach(NOT_WRITING, "unary " + none, ARGUMENT);
        }
        sentence = "promise 7, unary: IllegalStateException as for put";
        for (String v : new String[] {"0 1 0", "0 1 1", "28 15 15", "28 15 0"}) {
            refusedForEach(NOT_WRITING, "unary " + v, STATE);
        }
    }

    private static void mark() {
        sentence = "promise 8, mark: IllegalStateException as for put";
        refusedForEach(NOT_WRITING, "mark", STATE);
        sentence = "promise 8, mark: it is a bin, and it is no decision and does not go by";
        writer("start; passes 1100; mark", "508 488 2 4 5");
    }

    private static void finish() {
        sentence = "promise 9, finish: answers how many bytes there are";
        row("start", "finish; size", "2 2");
        row("start; passes 00000000", "finish; size", "3 3");
        sentence = "promise 9, finish: IllegalStateException when the writer has not started";
        refused("", "finish", STATE);
        refused(SETS, "finish", STATE);
        sentence = "promise 9, finish: IllegalStateException when the writer has ended";
        refused(ENDED, "finish", STATE);
        refused("start; finish", "finish", STATE);
        sentence = "promise 9, finish: a writer that has ended may start again";
        row("start; finish; start", "finish; finish", "2 " + STATE);
    }

    private static void size() {
        sentence = "promise 10, size: how many bytes there are; 0 before the writer has ended";
        row("", "size", "0");
        row("start", "size", "0");
        row(filled(400), "size", "0");
        row("start; finish", "size", "2");
        row("start; finish; alter 1 0; load; ended", "size", "2");
        row("start; finish; start", "size", "0");
        row("start; finish; start; passes 00000000; finish", "size", "3");
        row("start; passes 00000000; finish; start; finish", "size", "2");
    }

    private static void at() {
        sentence = "promise 11, at: byte i";
        row("start; passes 00000000; finish", "at 0; at 1; at 2", "0 254 128");
        sentence = "promise 11, at: IndexOutOfBoundsException when there is none";
        int size = Integer.parseInt(after(ENDED).ask("size"));
        row(ENDED, "at 0", "77");
        row(ENDED + "; alter " + (size - 1) + " 99", "at " + (size - 1), "99");
        for (int none : new int[] {-1, size, LEAST, LAST}) refused(ENDED, "at " + none, INDEX);
        sentence = "promise 11, at: there is none before the writer has ended";
        refused("", "at 0", INDEX);
        refused(MIDDLE, "at 0", INDEX);
        refused(FULL, "at 0", INDEX);
        refused(ENDED + "; start", "at 0", INDEX);
        sentence = "promise 11, at: there is none of a longer stream before";
        row("start; passes 00000000; finish; start; finish", "at 1; at 2", "128 " + INDEX);
    }

    private static void alter() {
        sentence = "promise 12, alter: byte i becomes b, 0 .. 255";
        bytes("start; passes 00000000; finish; alter 0 255", "255 254 128");
        bytes("start; passes 00000000; finish; alter 1 0", "0 0 128");
        bytes("start; passes 00000000; finish; alter 2 255; alter 2 7", "0 254 7");
        for (int none : new int[] {-1, 256, LEAST, LAST}) {
            refused(ENDED, "alter 0 " + none, ARGUMENT);
            refused(ENDED, "alter 1 " + none, ARGUMENT);
        }
        sentence = "promise 12, alter: IndexOutOfBoundsException when there is none";
        int size = Integer.parseInt(after(ENDED).ask("size"));
        for (int none : new int[] {-1, size, LEAST, LAST}) refused(ENDED, "alter " + none + " 5", INDEX);
        refused("", "alter 0 5", INDEX);
        refused(MIDDLE, "alter 0 5", INDEX);
        refused(ENDED + "; start", "alter 0 5", INDEX);
        row("start; passes 00000000; finish; start; finish", "alter 1 5; alter 2 5", "done " + INDEX);
        sentence = "promise 12, alter: IndexOutOfBoundsException goes before IllegalArgumentException";
        for (int none : new int[] {-1, size}) {
            refused(ENDED, "alter " + none + " -1", INDEX);
            refused(ENDED, "alter " + none + " 256", INDEX);
        }
        refused("", "alter 0 256", INDEX);
        refused(MIDDLE, "alter 0 -1", INDEX);
        sentence = "promise 12, alter: what is loaded stays";
        String loaded = loadedPasses("110010111000101") + "; getPass";
        String altered = loaded + "; alter 0 0; alter 1 0; alter 2 0";
        row(altered, "engine 5; engine 6", after(loaded).askAll("engine 5; engine 6"));
        row(altered, "14* getPass; ended", "1 0 0 1 0 1 1 1 0 0 0 1 0 1 true");
    }

    private static void load() {
        sentence = "promise 13, load: answers whether it could: not when the offset is 510 or more";
        row(withBytes(254, 128), "load; engine 5; engine 6; ended", "true 510 509 true");
        row(withBytes(255, 127), "load; engine 5; engine 6", "false 510 510");
        row(withBytes(255, 128), "load; engine 5; engine 6", "false 510 511");
        row(withBytes(0, 0), "load; engine 5; engine 6", "true 510 0");
        sentence = "promise 13, load: then nothing is loaded, though something was before";
        String before = "start; put 2 1; put 2 1; put 2 1; finish; load; get 2; alter 0 255";
        row(before, "get 2; load; get 2; getPass; getGolomb 0 false; getUnary 2 3; ended",
                "1 false " + (STATE + " ").repeat(5).trim());
        sentence = "promise 13, load: but range, offset and contexts are as if";
        row(before + "; alter 1 0; set 2 50 1; load", "engine 5; engine 6; about true 2; about false 2",
                "510 510 101 5");
        sentence = "promise 13, load: what could not be loaded may be loaded when it is altered";
        row(before + "; load; alter 0 0; alter 1 128", "load; engine 6; getPass", "true 1 0");
        sentence = "promise 13, load: the reader loads the bytes, as they are now, and starts";
        row("start; put 2 1; finish; load; get 2; ended", "load; engine 5; about true 2; get 2; ended",
                "true 510 0 1 true");
        row("start; finish; load; alter 0 1; alter 1 0", "engine 6; load; engine 6", "509 true 2");
        sentence = "promise 13, load: IllegalStateException when there are no bytes";
        refused("", "load", STATE);
        refused(SETS + "; start; passes 1100", "load", STATE);
        refused(MIDDLE, "load", STATE);
        refused(ENDED + "; start", "load", STATE);
        refused(FULL, "load", STATE);
    }

    private static void get() {
        sentence = "promise 14, get: IndexOutOfBoundsException when there is no such context, before the other";
        for (int none : new int[] {-1, 32}) {
            refused(ENDED, "get " + none, INDEX);
            refusedForEach(NOT_READING, "get " + none, INDEX);
        }
        sentence = "promise 14, get: IllegalStateException";
        for (int c : new int[] {0, 3, 31}) refusedForEach(NOT_READING, "get " + c, STATE);
    }

    private static void getPass() {
        sentence = "promise 15, getPass: IllegalStateException as for get";
        refusedForEach(NOT_READING, "getPass", STATE);
    }

    private static void getGolomb() {
        sentence = "promise 16, getGolomb: IllegalArgumentException when order is none, before IllegalStateException";
        for (String none : new String[] {"-1 false", "-1 true", "5 false", "5 true"}) {
            refused(ENDED, "getGolomb " + none, ARGUMENT);
            refusedForEach(NOT_READING, "getGolomb " + none, ARGUMENT);
        }
        sentence = "promise 16, getGolomb: IllegalStateException as for get";
        for (String order : new String[] {"0 false", "0 true", "4 false", "4 true"}) {
            refusedForEach(NOT_READING, "getGolomb " + order, STATE);
        }
    }

    private static void getUnary() {
        sentence = "promise 17, getUnary: IndexOutOfBoundsException when c is not 0 .. 28, before all others";
        for (String none : new String[] {"-1 1", "29 15", "29 0", "-1 16"}) {
            refused(ENDED, "getUnary " + none, INDEX);
            refusedForEach(NOT_READING, "getUnary " + none, INDEX);
        }
        sentence = "promise 17, getUnary: IllegalArgumentException when most is none, before IllegalStateException";
        for (String none : new String[] {"0 0", "28 16", "0 -1"}) {
            refused(ENDED, "getUnary " + none, ARGUMENT);
            refusedForEach(NOT_READING, "getUnary " + none, ARGUMENT);
        }
        sentence = "promise 17, getUnary: IllegalStateException as for get";
        for (String count : new String[] {"0 1", "0 15", "28 1", "28 15"}) {
            refusedForEach(NOT_READING, "getUnary " + count, STATE);
        }
    }

    private static void ended() {
        sentence = "promise 18, ended: whether it is the end; then the reader reads no more";
        row("start; mark; finish; load", "ended; ended; ended", "false true " + STATE);
        row("start; mark; finish; load; ended", "getPass", "1");
        row("start; finish; load; ended", "getPass; load; ended", STATE + " true true");
        sentence = "promise 18, ended: IllegalStateException as for get";
        refusedForEach(NOT_READING, "ended", STATE);
    }

    private static void about() {
        sentence = "promise 19, about: twice its state, and 1 more when 1 is likely";
        String sets = "set 0 0 0; set 1 0 1; set 2 62 0; set 31 62 1; start";
        row(sets, "about false 0; about false 1; about false 2; about false 31", "0 1 124 125");
        row(sets, "about true 0; about true 1; about true 2; about true 31", "0 0 0 0");
        row(sets + "; finish; load", "about true 0; about true 1; about true 2; about true 31", "0 1 124 125");
        sentence = "promise 19, about: IndexOutOfBoundsException when there is no such context";
        for (String run : new String[] {"", MIDDLE, ENDED, FULL}) {
            for (int none : new int[] {-1, 32}) {
                refused(run, "about false " + none, INDEX);
                refused(run, "about true " + none, INDEX);
            }
        }
    }

    private static void engine() {
        sentence = "promise 20, engine: all 0 at first (contexts, too, have state 0)";
        row("", "engines", "0 0 0 0 0 0 0");
        row(SETS, "engines; about false 0; about true 31", "0 0 0 0 0 0 0 0 0");
        sentence = "promise 20, engine: each of what's numbers";
        row("start; finish; load; start; passes 1100", "engines", "510 488 2 4 4 510 509");
        sentence = "promise 20, engine: IllegalArgumentException when what is none of these";
        for (String run : new String[] {"", MIDDLE, ENDED}) {
            for (int none : new int[] {-1, 7, LEAST, LAST}) refused(run, "engine " + none, ARGUMENT);
        }
    }

    private static void terms() {
        bins();
        contexts();
        states();
        learning();
        writerStarts();
        giving();
        shifting();
        decision();
        goingBy();
        marks();
        end();
        readerLoads();
        readerDecides();
        numbers();
        signed();
        counts();
        limit();
        wrongNumbers();
    }

    private static void promises() {
        newObject();
        set();
        start();
        put();
        pass();
        golomb();
        unary();
        mark();
        finish();
        size();
        at();
        alter();
        load();
        get();
        getPass();
        getGolomb();
        getUnary();
        ended();
        about();
        engine();
    }

    public static void main(String[] args) {
        terms();
        promises();
        System.out.println(wrong == 0 ? "the sentences hold, in " + rows + " rows" : wrong + " rows are not as due");
        if (wrong != 0) System.exit(1);
    }
}
