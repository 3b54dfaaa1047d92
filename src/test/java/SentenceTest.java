import java.io.IOException;
import java.math.BigInteger;
import java.nio.file.Files;
import java.nio.file.Path;
import java.util.ArrayList;
import java.util.List;
import java.util.Map;
import java.util.TreeMap;

/**
 * The document from its first line: each of its sentences is quoted, with rows that fail if it is broken, on both sides
 * of each boundary; and for each reason for an exception: that it is thrown, that nothing has changed after it, and
 * that the one named first goes before others. In the end the quotes are laid over the document: nothing of it may be
 * left without rows.
 *
 * Runs of calls are written as texts: "start; 12* mark; put 3 1; passes 1100" (a call for each bin of the last).
 */
public final class SentenceTest {
    private static final Path DOCUMENT = Path.of("../shared/DOC.md");
    /** The title; the face, which FaceTest has; and what is free. */
    private static final List<String> ELSEWHERE = List.of("# BinStreams", "The public face", "Not promised");
    /** TableTest has them. */
    private static final String TABLES = "THE TABLE R, .* 37 38 38 ";
    private static final String FREE = "what later calls answer is free.";
    private static final int MOST_CALLS = 512;
    private static final String INDEX = "throws.IndexOutOfBoundsException";
    private static final String ARGUMENT = "throws.IllegalArgumentException";
    private static final String STATE = "throws.IllegalStateException";
    private static final int LEAST = Integer.MIN_VALUE;
    private static final int LAST = Integer.MAX_VALUE;

    /** 400 bins in few calls. */
    private static final String FULL = "start; 12* golomb 0 false 65535; 3* mark; pass 1";

    private static final String SETS = "set 0 20 1; set 3 5 0; set 31 62 1";
    private static final String STREAM = "start; put 0 0; put 3 1; passes 110010; mark; put 31 1; unary 4 6 3; "
            + "golomb 1 true -5; passes 1011001110; finish";
    /** Writer and reader both stand in the middle, bits wait, and the start states are neither's. */
    private static final String MIDDLE = SETS + "; " + STREAM + "; alter 1 200; load; get 0; getPass; "
            + "set 0 9 0; set 30 1 1; start; put 0 1; put 31 0; passes 1100";
    /** The writer has ended, its bytes are no more those that the reader has, and the reader stands in the middle. */
    private static final String ENDED = SETS + "; " + STREAM + "; load; get 0; get 3; getPass; alter 0 77; alter 2 3; "
            + "set 0 9 0; set 30 1 1";

    private static final String[][] NOT_WRITING = {
        {"the writer has not started", SETS},
        {"the writer has ended", ENDED},
        {"there would be more than 400 bins", SETS + "; " + FULL},
    };
    private static final String[][] NOT_READING = {
        {"nothing is loaded on a new object", SETS},
        {"nothing is loaded, though bytes are there", SETS + "; " + STREAM},
        {"nothing is loaded by a load that could not", ENDED + "; alter 0 255; load; start; passes 1100"},
        {"the reader has read the end", "start; put 0 1; finish; load; get 0; ended; start; passes 1100"},
        {"the reader has read powers that are WRONG", "start; passes 1111111111111111111; finish; load; "
            + "getGolomb 0 false; start; passes 1100"},
        {"the reader has read a sum that is WRONG", "start; passes 111111111111111101111111111111111; finish; load; "
            + "getGolomb 0 true"},
    };

    /** Between them they show all that an object holds: its numbers, and how writing and reading would go on. */
    private static final String[] LOOKS = {
        "engines; bytes; abouts false; abouts true",
        "put 0 1; put 3 0; pass 1; mark; golomb 1 true -9; unary 2 5 3; put 31 1; finish; bytes; load; engine 6",
        "get 0; getPass; get 3; engine 6; getUnary 2 5; get 31; ended; 24* getPass; engine 5; engine 6; abouts true",
        "getGolomb 1 true; engine 6; 24* ended; engine 5; engine 6",
        "start; engines; abouts false; finish; bytes; load; abouts true",
        "load; engine 5; engine 6; abouts true; 40* getPass; engine 6",
    };

    private static int wrong = 0;
    private static int rows = 0;
    private static String chapter = "";
    private static String sentence = "";
    private static final List<Quote> QUOTES = new ArrayList<>();

    /** A part of the document as it stands there, and how many rows there had been before its own. */
    private record Quote(String chapter, String text, int rowsBefore) {
    }

    /** One object, and how many calls it has had. */
    private static final class Asked {
        final BinStreams x = new BinStreams();
        int calls = 0;

        String ask(String call) {
            calls++;
            if (calls > MOST_CALLS) throw new AssertionError("too many calls for one object: " + call);
            String[] w = call.split(" ");
            try {
                return answer(w[0], w);
            } catch (RuntimeException e) {
                return "throws." + e.getClass().getSimpleName();
            }
        }

        private static int n(String word) {
            return Integer.parseInt(word);
        }

        private String answer(String name, String[] w) {
            switch (name) {
                case "set": x.set(n(w[1]), n(w[2]), n(w[3])); return "done";
                case "start": x.start(); return "done";
                case "put": x.put(n(w[1]), n(w[2])); return "done";
                case "pass": x.pass(n(w[1])); return "done";
                case "golomb": return "" + x.golomb(n(w[1]), w[2].equals("true"), n(w[3]));
                case "unary": return "" + x.unary(n(w[1]), n(w[2]), n(w[3]));
                case "mark": x.mark(); return "done";
                case "finish": return "" + x.finish();
                case "size": return "" + x.size();
                case "at": return "" + x.at(n(w[1]));
                case "alter": x.alter(n(w[1]), n(w[2])); return "done";
                case "load": return "" + x.load();
                case "get": return "" + x.get(n(w[1]));
                case "getPass": return "" + x.getPass();
                case "getGolomb": return "" + x.getGolomb(n(w[1]), w[2].equals("true"));
                case "getUnary": return "" + x.getUnary(n(w[1]), n(w[2]));
                case "ended": return "" + x.ended();
                case "about": return "" + x.about(w[1].equals("true"), n(w[2]));
                case "engine": return "" + x.engine(n(w[1]));
                default: throw new AssertionError("no such call: " + name);
            }
        }

        /** The answers of a whole run, a space between them. */
        String askAll(String run) {
            StringBuilder all = new StringBuilder();
            for (String call : calls(run)) all.append(all.length() == 0 ? "" : " ").append(ask(call));
            return all.toString();
        }

        private List<String> calls(String run) {
            List<String> all = new ArrayList<>();
            for (String part : run.isEmpty() ? new String[0] : run.split("; ")) {
                int star = part.indexOf("* ");
                int times = star < 0 ? 1 : n(part.substring(0, star));
                for (int i = 0; i < times; i++) addCalls(all, part.substring(star < 0 ? 0 : star + 2));
            }
            return all;
        }

        private void addCalls(List<String> all, String part) {
            String[] w = part.split(" ");
            if (w[0].equals("passes")) for (char bin : w[1].toCharArray()) all.add("pass " + bin);
            else if (w[0].equals("engines")) for (int i = 0; i <= 6; i++) all.add("engine " + i);
            else if (w[0].equals("abouts")) for (int i = 0; i <= 31; i++) all.add("about " + w[1] + " " + i);
            else all.add(part);
        }
    }

    /** The rows behind this are the test of what is quoted. */
    private static void says(String quote) {
        says(quote, "");
    }

    private static void says(String quote, String look) {
        sentence = chapter + ", \"" + quote + "\"" + (look.isEmpty() ? "" : " (" + look + ")");
        QUOTES.add(new Quote(chapter, quote, rows));
    }

    private static void due(String what, String got, String want) {
        rows++;
        if (!got.equals(want)) {
            wrong++;
            System.out.println(sentence + ": " + what + " answered " + got + ", due is " + want);
        }
    }

    /** An object after a run in which no call may be refused. */
    private static Asked after(String run) {
        Asked object = new Asked();
        String answers = object.askAll(run);
        if (answers.contains("throws.")) due("a call on the way, in " + run, answers, "no exception");
        return object;
    }

    /** The answers to the last calls of a run. */
    private static void row(String run, String lastCalls, String want) {
        due(run + "; " + lastCalls, after(run).askAll(lastCalls), want);
    }

    /** Range, low, waiting bits, shifts and bins of the writer. */
    private static void writer(String run, String want) {
        row(run, "engine 0; engine 1; engine 2; engine 3; engine 4", want);
    }

    /** Range and offset of the reader. */
    private static void reader(String run, String want) {
        row(run, "engine 5; engine 6", want);
    }

    private static String bytesOf(Asked object) {
        int size = Integer.parseInt(object.ask("size"));
        StringBuilder all = new StringBuilder();
        for (int i = 0; i < size; i++) all.append(i == 0 ? "" : " ").append(object.ask("at " + i));
        return all.toString();
    }

    private static void bytes(String run, String want) {
        due("the bytes after " + run, bytesOf(after(run)), want);
    }

    private static String look(String run, String refused, String look) {
        Asked object = after(run);
        if (!refused.isEmpty()) object.askAll(refused);
        StringBuilder all = new StringBuilder();
        for (String part : look.split("; ")) {
            all.append(part.equals("bytes") ? bytesOf(object) : object.askAll(part)).append("; ");
        }
        return all.toString();
    }

    /** Two runs after which nothing is different. */
    private static void same(String run, String other) {
        for (String look : LOOKS) due("after " + run + ", " + look, look(run, "", look), look(other, "", look));
    }

    private static void refused(String run, String call, String want) {
        row(run, call, want);
        for (String look : LOOKS) {
            due("after " + run + " and the refused " + call + ", " + look, look(run, call, look), look(run, "", look));
        }
    }

    private static void refusedForEach(String[][] reasons, String call, String want) {
        String before = sentence;
        for (String[] reason : reasons) {
            sentence = before + " (" + reason[0] + ")";
            refused(reason[1], call, want);
        }
        sentence = before;
    }

    /** A reader of just these bits, since the stream with no bins has two bytes. */
    private static String withBytes(int first, int second) {
        return "start; finish; alter 0 " + first + "; alter 1 " + second;
    }

    private static String loadedPasses(String bins) {
        return "start; passes " + bins + "; finish; load";
    }

    // ---- What it is

    private static void whatItIs() {
        chapter = "What it is";
        says("Streams of bins, coded by an arithmetic coder whose contexts learn: decisions, bins that go by, marks, "
                + "and numbers as rows of bins;");
        row("start", "put 4 1; pass 1; mark; golomb 0 true -7; unary 0 5 4; engine 4; about false 4",
                "done done done 7 5 15 1");
        says("a writer that carries bits which are not certain yet,", "two bits wait, and become 00 or 11");
        writer("start; passes 1100", "510 488 2 4 4");
        bytes("start; passes 11001; finish", "207 44");
        bytes("start; passes 110000000; finish", "191 191 64");
        says("a reader that follows it,");
        row("start; put 4 1; pass 1; mark; golomb 0 true -7; unary 0 5 4; finish; load",
                "get 4; getPass; ended; getGolomb 0 true; getUnary 0 5; ended; about true 4", "1 1 false -7 4 true 1");
        says("and bytes between them that may be altered.");
        row("start; passes 1011; finish; alter 0 0; load", "4* getPass", "0 0 0 0");
        row("start; passes 1011; finish; load; alter 0 0", "4* getPass; load; 4* getPass", "1 0 1 1 true 0 0 0 0");
    }

    /** Bin n of what the stream with no bins has behind its start: its first offset is 509, and its range stays 510. */
    private static String binOfEmptyStream(int n) {
        BigInteger all = BigInteger.valueOf(509).shiftLeft(n).divide(BigInteger.valueOf(510));
        return all.testBit(0) ? "1" : "0";
    }

    /** The 512th call of an object: what went before it is filled up with calls that change nothing. */
    private static void last(String run, String call, String want) {
        Asked object = after(run);
        while (object.calls < MOST_CALLS - 1) object.ask("size");
        due(run + "; .. ; " + call + " as the 512th call", object.ask(call), want);
    }

    private static void calls() {
        says("An object is used for at most 512 calls after it has been made;");
        last("510* set 31 62 0; start", "about false 31", "124");
        last("511* start", "start", "done");
        last("start; finish; ".repeat(255) + "start", "finish", "2");
        last("start; 400* mark", "engine 4", "400");
        last("start; 399* put 3 0", "put 3 0", "done");
        last("start; 399* pass 1", "pass 1", "done");
        last("start; 399* mark", "mark", "done");
        last("start; 122* golomb 0 true 1; 31* pass 0", "golomb 0 true 1", "3");
        last("start; 132* unary 5 3 3; pass 0", "unary 5 3 3", "3");
        last("start; 7* pass 0", "finish", "2");
        last("start; 6* pass 0; finish", "at 1", "250");
        last("start; finish; 508* alter 0 255", "load", "false");
        last("start; finish; 509* load", "load", "true");
        last("start; finish; load; 508* getPass", "getPass", binOfEmptyStream(509));
        last("start; finish; load; 507* getPass", "getPass", binOfEmptyStream(508));
        last("start; put 7 1; finish; load", "get 7", "1");
        last("start; golomb 4 true -9; finish; load", "getGolomb 4 true", "-9");
        last("start; unary 7 9 5; finish; load", "getUnary 7 9", "5");
        last("start; finish; load", "ended", "true");
        says("An object is used for at most 512 calls after it has been made;", "refused ones among them");
        last("start; finish", "pass 1", STATE);
        Asked object = after("start; pass 1");
        due("505 calls that are refused", object.askAll("505* put 32 0"), (INDEX + " ").repeat(505).trim());
        due("5 calls behind them", object.askAll("finish; load; getPass; ended; size"), "2 true 1 true 2");
    }

    // ---- Terms

    private static void bins() {
        says("A BIN is 0 or 1.");
        writer("start; put 0 0", "270 0 0 0 1");
        writer("start; put 0 1", "480 28 1 1 1");
        writer("start; pass 0", "510 0 0 1 1");
        writer("start; pass 1", "510 510 0 1 1");
        row("set 0 0 0; start", "about false 0", "0");
        row("set 0 0 1; start", "about false 0", "1");
        for (int none : new int[] {-1, 2, LEAST, LAST}) {
            refused(MIDDLE, "put 0 " + none, ARGUMENT);
            refused(MIDDLE, "pass " + none, ARGUMENT);
            refused(MIDDLE, "set 0 0 " + none, ARGUMENT);
        }
    }

    private static void contexts() {
        says("CONTEXTS are 0 .. 31;");
        for (int c : new int[] {0, 31}) {
            row("set " + c + " 7 1; start", "about false " + c, "15");
            row("start; put " + c + " 1", "about false " + c, "1");
            row("start; put " + c + " 1; finish; load; get " + c, "about true " + c, "1");
        }
        for (int none : new int[] {-1, 32, LEAST, LAST}) {
            refused(MIDDLE, "set " + none + " 0 0", INDEX);
            refused(MIDDLE, "put " + none + " 0", INDEX);
            refused(MIDDLE, "get " + none, INDEX);
            refused(MIDDLE, "about false " + none, INDEX);
            refused(MIDDLE, "about true " + none, INDEX);
        }
        says("writer and reader have contexts of their own.");
        String read = "set 4 10 0; start; put 4 1; put 4 1; finish; set 4 20 1; load";
        row(read, "about false 4; about true 4", "12 41");
        row(read + "; get 4", "about false 4", "12");
        row(read + "; start; put 4 0", "about false 4; about true 4", "33 41");
    }

    private static void states() {
        says("each has a STATE 0 .. 62 and a LIKELY bin;");
        row("set 5 0 0; start", "about false 5", "0");
        row("set 5 62 0; start", "about false 5", "124");
        for (int none : new int[] {-1, 63, LEAST, LAST}) refused(MIDDLE, "set 5 " + none + " 0", ARGUMENT);
        says("START states are set, at first 0 and 0;");
        row("start", "abouts false", "0 ".repeat(32).trim());
        row("start; finish; load", "abouts true", "0 ".repeat(32).trim());
    }

    /** One decision, written and then read, and what the context is behind it. */
    private static void learns(int state, int likely, int bin, int about) {
        String written = "set 9 " + state + " " + likely + "; start; put 9 " + bin;
        row(written, "about false 9", "" + about);
        row(written + "; finish; load; get 9", "about true 9", "" + about);
    }

    private static void learning() {
        says("LEARNING. When the bin is the likely one, the state grows by 1, but not beyond 62.");
        learns(0, 0, 0, 2);
        learns(0, 1, 1, 3);
        learns(60, 0, 0, 122);
        learns(61, 0, 0, 124);
        learns(62, 0, 0, 124);
        learns(61, 1, 1, 125);
        learns(62, 1, 1, 125);
        says("Otherwise, if the state is 0, the other bin is the likely one from now on;");
        learns(0, 0, 1, 1);
        learns(0, 1, 0, 0);
        learns(1, 0, 1, 0);
        learns(1, 1, 0, 1);
        learns(2, 0, 1, 2);
        row("start; put 9 1; put 9 1", "about false 9", "3");
        says("then the state s becomes T(s).");
        learns(61, 0, 1, 76);
        learns(62, 0, 1, 76);
        learns(62, 1, 0, 77);
        says("LEARNING.", "which is for decisions alone");
        row("set 0 7 1; start; pass 1; pass 0; golomb 0 false 9; mark; finish", "about false 0", "15");
        row("set 0 7 1; " + loadedPasses("10") + "; getPass; getPass; ended", "about true 0", "15");
    }

    private static void writerStarts() {
        says("THE WRITER has a RANGE and a LOW, 510 and 0 when it starts, WAITING bits, at first 0, and SHIFTS, at "
                + "first 0.");
        writer("", "0 0 0 0 0");
        writer("start", "510 0 0 0 0");
        writer(MIDDLE + "; start", "510 0 0 0 0");
        writer(ENDED + "; start", "510 0 0 0 0");
        writer(FULL + "; start", "510 0 0 0 0");
    }

    private static void giving() {
        says("TO GIVE a bit: it is written, but for the first one since the start, which is left out;");
        bytes("start; finish", "254 128");
        bytes("start; pass 0; finish", "127 64");
        bytes("start; passes 00; finish", "63 160");
        says("but for the first one since the start, which is left out;", "in every stream");
        bytes("start; passes 00; finish; start; pass 0; finish", "127 64");
        bytes("start; passes 11001; start; pass 0; finish", "127 64");
        says("then as many of the other bit as are waiting;", "behind the one that is left out, too");
        writer("start; put 0 1", "480 28 1 1 1");
        bytes("start; put 0 1; finish", "254 192");
        writer("start; put 0 1; pass 0", "480 56 0 2 2");
        says("none waits then.");
        writer("start; passes 1100", "510 488 2 4 4");
        writer("start; passes 11001", "510 462 0 5 5");
        writer("start; passes 1100; finish", "256 0 0 11 4");
    }

    private static void shifting() {
        String first = "set 1 43 0; set 2 44 0; set 3 31 0; set 4 41 0; start; ";
        says("TO SHIFT: if low is less than 256, 0 is given;", "255");
        writer(first + "put 0 0; put 1 1", "480 480 4 5 2");
        says("if it is 512 or more, low falls by 512, and 1 is given;", "512");
        writer(first + "pass 1; put 4 1", "448 512 0 5 2");
        writer(first + "pass 1; put 4 1; put 0 0", "416 0 0 6 3");
        says("otherwise low falls by 256, and one more bit waits.", "256 and 511 do, and 270");
        writer(first + "put 0 0; put 2 1", "448 0 0 5 2");
        writer(first + "put 0 0; pass 1; put 3 1", "464 496 4 5 3");
        writer("start; put 0 1", "480 28 1 1 1");
        says("Then range and low double, and shifts grow by 1.");
        writer("start; put 0 0; put 0 0", "284 0 0 1 2");
        writer("start; put 0 0; put 0 0; put 0 1", "256 312 0 2 3");
        says("It shifts as long as range is less than 256.", "255 does, 256 does not");
        writer(first + "put 0 0; put 1 0", "510 0 0 1 2");
        writer(first + "put 0 0; put 2 0", "256 0 0 0 2");
    }

    /** A stream whose range is this, reached by marks; an odd one behind a decision of state 62. */
    private static String withRange(int range) {
        return range % 2 == 0 ? "start; " + (510 - range) / 2 + "* mark"
                : "set 1 62 0; start; put 1 0; " + (501 - range) / 2 + "* mark";
    }

    private static String readBackToRange(int range) {
        return range % 2 == 0 ? (510 - range) / 2 + "* ended" : "get 1; " + (501 - range) / 2 + "* ended";
    }

    /** Ranges on both sides of each quarter, and what they are behind a likely decision of state 0. */
    private static final int[][] QUARTERS = {
        {510, 270}, {448, 416}, {447, 478}, {384, 352}, {383, 414}, {320, 288}, {319, 382}, {257, 258}, {256, 256},
    };

    private static void decision() {
        says("A DECISION with a context: q is range / 64 % 4 (rounded down),");
        for (int[] quarter : QUARTERS) {
            row(withRange(quarter[0]), "engine 0; put 0 0; engine 0", quarter[0] + " done " + quarter[1]);
        }
        says("r = R(state, q); range falls by r.");
        writer("start; put 0 0", "270 0 0 0 1");
        writer("set 0 20 0; start; put 0 0", "425 0 0 0 1");
        writer("set 0 62 1; start; put 0 1", "501 0 0 0 1");
        row("set 0 20 0; " + withRange(256) + "; put 0 0", "engine 0; engine 3", "410 1");
        says("If the bin is not the likely one, low grows by range, and range is r.");
        writer("set 0 0 1; start; put 0 1", "270 0 0 0 1");
        writer("set 0 0 1; start; put 0 0", "480 28 1 1 1");
        says("The context learns, and it shifts.");
        row("start", "put 9 1; about false 9; engine 3; about false 8; about false 10", "done 1 1 0 0");
        row("start", "put 9 0; about false 9; put 9 0; about false 9; engine 3", "done 2 done 4 1");
    }

    private static void goingBy() {
        String first = "set 1 43 0; set 2 41 0; set 3 32 0; set 4 48 0; start; ";
        says("A bin that GOES BY: low doubles, and if the bin is 1 it grows by range.");
        writer("start; pass 0", "510 0 0 1 1");
        writer("start; pass 1", "510 510 0 1 1");
        writer("start; put 0 1; pass 0", "480 56 0 2 2");
        writer("start; put 0 1; pass 1", "480 24 2 2 2");
        says("If low is 1024 or more, 1 is given, and low falls by 1024;", "1024");
        writer(first + "pass 1; put 2 1; pass 0", "448 0 0 6 3");
        says("if it is less than 512, 0 is given;", "511");
        writer(first + "put 0 1; put 1 0; pass 1", "455 511 0 2 3");
        says("otherwise low falls by 512, and one more bit waits.", "512 and 1023 do");
        writer(first + "put 2 1; pass 1", "448 0 5 5 2");
        writer(first + "put 0 0; put 3 1; put 4 0; pass 1", "415 511 4 5 4");
        says("Shifts grow by 1.");
        row("start", "engine 3; pass 0; engine 3; pass 1; engine 3; pass 1; engine 3; pass 0; engine 3",
                "0 done 1 done 2 done 3 done 4");
    }

    private static void marks() {
        says("A MARK: range falls by 2, and it shifts.", "255 and 254 do, 256 does not");
        String odd = "set 1 46 0; start; put 0 0; put 1 0";
        writer("start; mark", "508 0 0 0 1");
        writer("start; 127* mark", "256 0 0 0 127");
        writer("start; 128* mark", "508 0 0 1 128");
        writer(odd, "257 0 0 0 2");
        writer(odd + "; mark", "510 0 0 1 3");
    }

    private static void end() {
        says("THE END: range falls by 2, low grows by range, range is 2, it shifts;");
        writer("start; finish", "256 0 0 7 0");
        writer("start; 127* mark; finish", "256 256 0 7 127");
        bytes("start; 127* mark; finish", "127 128");
        says("then the bit low / 512 % 2 is given,", "seven ones behind it have waited");
        bytes("start; finish", "254 128");
        bytes("start; pass 0; finish", "127 64");
        says("and the bits low / 256 % 2 and 1 are written as they are.");
        row("set 1 3 0; start; put 0 1; put 1 0; finish", "engine 1; at 0; at 1", "128 203 64");
        row("set 1 4 0; start; put 0 1; put 1 0; finish", "engine 1; at 0; at 1", "384 205 192");
        says("Bytes hold eight bits each, the first one highest, the last byte filled with 0.");
        bytes("start; passes 000000; finish", "3 250");
        bytes("start; passes 0000000; finish", "1 253");
        bytes("start; passes 00000000; finish", "0 254 128");
        bytes("start; passes 000000000000000; finish", "0 1 253");
        bytes("start; passes 0000000000000000; finish", "0 0 254 128");
        row("start; passes 0000000", "finish", "2");
        row("start; passes 00000000", "finish", "3");
    }

    private static void readerLoads() {
        says("THE READER has a RANGE and an OFFSET: when bytes are loaded, 510, and the number of the first nine "
                + "bits.");
        reader(withBytes(0, 127) + "; load", "510 0");
        reader(withBytes(0, 128) + "; load", "510 1");
        reader(withBytes(128, 0) + "; load", "510 256");
        says("Behind the last byte come bits 0.");
        reader(withBytes(0, 1) + "; load; 6* getPass", "510 0");
        reader(withBytes(0, 1) + "; load; 7* getPass", "510 1");
        reader(withBytes(0, 1) + "; load; 8* getPass", "510 2");
        reader(withBytes(0, 1) + "; load; 15* getPass", "510 256");
        row(withBytes(0, 1) + "; load; 15* getPass", "getPass; engine 6", "1 2");
        says("Behind the last byte come bits 0.", "not those of a longer stream before");
        String longer = loadedPasses("1".repeat(60)) + "; ";
        reader(longer + withBytes(0, 1) + "; load; 15* getPass", "510 256");
        bytes(longer + "start; finish", "254 128");
    }

    private static void readerShifts() {
        says("TO SHIFT: range doubles, offset doubles and grows by the next bit, as long as range is less than 256.");
        reader(withBytes(135, 0) + "; load; get 0", "480 0");
        reader(withBytes(135, 64) + "; load; get 0", "480 1");
        reader("set 0 62 0; " + withBytes(252, 216) + "; load; get 0", "288 150");
        String first = "set 1 43 0; set 2 44 0; start; put 0 0; ";
        reader(first + "put 1 0; finish; load; get 0; get 1", "510 509");
        reader(first + "put 2 0; finish; load; get 0; get 2", "256 255");
    }

    private static void readerDecides() {
        says("A decision: q, r and range as above;");
        for (int[] quarter : QUARTERS) {
            String loaded = withRange(quarter[0]) + "; put 0 0; finish; load; " + readBackToRange(quarter[0]);
            row(loaded, "engine 5; get 0; engine 5", quarter[0] + " 0 " + quarter[1]);
        }
        says("if the offset is not less than range, it falls by range, range is r, and the bin is not the likely one; "
                + "otherwise it is that.");
        row(withBytes(134, 128) + "; load", "engine 6; get 0; engine 5; engine 6; about true 0", "269 0 270 269 2");
        row(withBytes(135, 0) + "; load", "engine 6; get 0; engine 5; engine 6; about true 0", "270 1 480 0 1");
        row("set 0 0 1; " + withBytes(134, 128) + "; load", "get 0; about true 0", "1 3");
        row("set 0 0 1; " + withBytes(135, 0) + "; load", "get 0; about true 0", "0 0");
        says("It learns and shifts.");
        row("start; put 9 0; put 9 0; put 9 1; finish; load",
                "get 9; about true 9; get 9; about true 9; engine 5; get 9; about true 9; engine 5; about true 8",
                "0 2 0 4 284 1 2 256 0");
    }

    private static void readerGoesBy() {
        says("A bin that goes by: offset doubles and grows by the next bit; if it is not less than range, it falls by "
                + "that, and the bin is 1; otherwise it is 0.");
        row(withBytes(127, 64) + "; load", "engine 6; getPass; engine 5; engine 6", "254 0 510 509");
        row(withBytes(127, 128) + "; load", "engine 6; getPass; engine 5; engine 6", "255 1 510 0");
        row(withBytes(127, 192) + "; load", "engine 6; getPass; engine 5; engine 6", "255 1 510 1");
        row("start; put 9 1; pass 1; pass 0; finish; load; get 9", "getPass; engine 5; getPass; engine 5; about true 9",
                "1 480 0 480 1");
    }

    private static void readerMeetsMarks() {
        says("A mark or the end: range falls by 2; if the offset is not less, it is THE END;");
        row(withBytes(253, 128) + "; load", "engine 6; ended; engine 5; engine 6", "507 false 508 507");
        row(withBytes(254, 0) + "; load", "engine 6; ended; engine 5; engine 6", "508 true 508 508");
        row(withBytes(253, 128) + "; load; ended", "ended; engine 5; engine 6", "true 506 507");
        says("otherwise it shifts.", "255 and 254 do, 256 does not, and the end does not");
        row("start; 127* mark; finish; load; 127* ended", "engine 5; engine 6; ended; engine 5; engine 6",
                "256 255 true 254 255");
        row("start; 128* mark; finish; load; 127* ended", "engine 5; engine 6; ended; engine 5; engine 6",
                "256 253 false 508 507");
        reader("set 1 46 0; start; put 0 0; put 1 0; mark; finish; load; get 0; get 1; ended", "510 509");
    }

    // ---- Numbers as bins

    private static void oneNumber(int order, boolean signed, int v, String bins) {
        String golomb = "golomb " + order + " " + signed + " " + v;
        row("start", golomb, "" + bins.length());
        same("start; " + golomb, "start; passes " + bins);
        row(loadedPasses(bins), "getGolomb " + order + " " + signed, "" + v);
        same(loadedPasses(bins + "10110") + "; getGolomb " + order + " " + signed,
                loadedPasses(bins + "10110") + "; " + bins.length() + "* getPass");
    }

    private static String bits(int length, int number) {
        return length == 0 ? "" : Integer.toBinaryString(1 << length | number).substring(1);
    }

    private static void numbers() {
        says("as long as v is 2^k or more, a bin 1, v falls by 2^k, and k grows by 1; then a bin 0;");
        for (int k = 0; k <= 4; k++) {
            int one = 1 << k;
            int two = one + 2 * one;
            oneNumber(k, false, one - 1, "0" + "1".repeat(k));
            oneNumber(k, false, one, "10" + "0".repeat(k + 1));
            oneNumber(k, false, two - 1, "10" + "1".repeat(k + 1));
            oneNumber(k, false, two, "110" + "0".repeat(k + 2));
        }
        says("then the k lowest bits of v, the highest first.");
        oneNumber(3, false, 6, "0110");
        oneNumber(2, false, 4 + 1, "10001");
        says("NUMBERS AS BINS. A number v (0 .. 65535)");
        for (int k = 0; k <= 4; k++) {
            int left = (1 << k) - 1;
            oneNumber(k, false, 0, "0" + "0".repeat(k));
            oneNumber(k, false, 65535, "1".repeat(16 - k) + "0" + bits(16, left));
            refused(MIDDLE, "golomb " + k + " false -1", ARGUMENT);
            refused(MIDDLE, "golomb " + k + " false 65536", ARGUMENT);
        }
        oneNumber(0, false, 65534, "1".repeat(15) + "0" + "1".repeat(15));
        refused(MIDDLE, "golomb 0 false " + LEAST, ARGUMENT);
        refused(MIDDLE, "golomb 0 false " + LAST, ARGUMENT);
        says("of ORDER k (0 .. 4),");
        for (int none : new int[] {-1, 5, 31, 32, LEAST, LAST}) {
            refused(MIDDLE, "golomb " + none + " false 0", ARGUMENT);
            refused(MIDDLE, "golomb " + none + " true 0", ARGUMENT);
            refused(MIDDLE, "getGolomb " + none + " false", ARGUMENT);
            refused(MIDDLE, "getGolomb " + none + " true", ARGUMENT);
        }
        says("all bins going by:");
        oneNumber(2, false, 9, "10101");
        row("set 0 7 1; start; golomb 2 false 9", "engine 0; engine 3; engine 4; about false 0", "510 5 5 15");
    }

    private static void signed() {
        says("is written as 2 v - 1, if it is above 0, otherwise as -2 v.");
        for (int k = 0; k <= 4; k++) oneNumber(k, true, 0, "0" + "0".repeat(k));
        oneNumber(0, true, 1, "100");
        oneNumber(0, true, -1, "101");
        oneNumber(0, true, 2, "11000");
        oneNumber(0, true, -2, "11001");
        oneNumber(4, true, 8, "01111");
        oneNumber(4, true, -8, "1000000");
        says("SIGNED: v (-32767 .. 32768)");
        for (int k = 0; k <= 4; k++) {
            int left = (1 << k) - 1;
            oneNumber(k, true, 32768, "1".repeat(16 - k) + "0" + bits(16, left));
            refused(MIDDLE, "golomb " + k + " true 32769", ARGUMENT);
            refused(MIDDLE, "golomb " + k + " true -32768", ARGUMENT);
        }
        oneNumber(0, true, -32767, "1".repeat(15) + "0" + "1".repeat(15));
        oneNumber(1, true, -32767, "1".repeat(15) + "0" + bits(16, 0));
        refused(MIDDLE, "golomb 0 true " + LEAST, ARGUMENT);
        refused(MIDDLE, "golomb 0 true " + LAST, ARGUMENT);
        says("SIGNED: v (-32767 .. 32768)", "others keep their own bounds");
        row("start", "golomb 0 true -1; golomb 0 false 32769; golomb 0 false 32768", "3 31 31");
    }

    /** A count as decisions: contexts of its own for three bins, and one for all further. */
    private static void oneCount(int c, int most, int v, String bins) {
        StringBuilder puts = new StringBuilder("start");
        StringBuilder gets = new StringBuilder();
        for (int i = 0; i < bins.length(); i++) {
            int context = i == 0 ? c : i == 1 ? c + 1 : i == 2 ? c + 2 : c + 3;
            puts.append("; put ").append(context).append(' ').append(bins.charAt(i));
            gets.append("; get ").append(context);
        }
        row("start", "unary " + c + " " + most + " " + v, "" + bins.length());
        same("start; unary " + c + " " + most + " " + v, puts.toString());
        String loaded = puts + "; passes 1011001; finish; load";
        row(loaded, "getUnary " + c + " " + most, "" + v);
        same(loaded + "; getUnary " + c + " " + most, loaded + gets);
    }

    private static void counts() {
        says("v bins 1, and then 0, if v is less than m;");
        for (int m = 1; m <= 15; m++) {
            oneCount(2, m, m - 1, "1".repeat(m - 1) + "0");
            oneCount(2, m, m, "1".repeat(m));
        }
        oneCount(2, 15, 0, "0");
        says("decisions with the contexts c, c + 1, c + 2, and c + 3 for all further ones");
        row("start; unary 4 15 1", "about false 4; about false 5; about false 6; about false 7", "1 2 0 0");
        row("start; unary 4 15 2", "about false 4; about false 5; about false 6; about false 7", "1 1 2 0");
        row("start; unary 4 15 3", "about false 4; about false 5; about false 6; about false 7", "1 1 1 2");
        row("start; unary 4 15 4", "about false 4; about false 5; about false 6; about false 7", "1 1 1 0");
        row("start; unary 4 15 5", "about false 7; about false 8", "1 0");
        says("(c 0 .. 28).");
        oneCount(0, 5, 5, "11111");
        oneCount(28, 5, 5, "11111");
        for (int none : new int[] {-1, 29, 31, 32, LEAST, LAST}) {
            refused(MIDDLE, "unary " + none + " 1 0", INDEX);
            refused(MIDDLE, "getUnary " + none + " 1", INDEX);
        }
        says("(m 1 .. 15):");
        for (int none : new int[] {0, -1, 16, LEAST, LAST}) {
            refused(MIDDLE, "unary 0 " + none + " 0", ARGUMENT);
            refused(MIDDLE, "getUnary 0 " + none, ARGUMENT);
        }
        says("A COUNT v of at most m");
        for (int none : new int[] {-1, 5, LEAST, LAST}) refused(MIDDLE, "unary 0 4 " + none, ARGUMENT);
        refused(MIDDLE, "unary 0 1 2", ARGUMENT);
        refused(MIDDLE, "unary 0 15 16", ARGUMENT);
    }

    /** A stream that runs and has so many bins, in few calls. */
    private static String filled(int bins) {
        return "start; " + bins / 33 + "* golomb 0 false 65535; " + bins % 33 + "* mark";
    }

    private static void fits(String call, int bins) {
        row(filled(400 - bins), "engine 4", "" + (400 - bins));
        row(filled(400 - bins) + "; " + call, "engine 4", "400");
        refused(filled(401 - bins), call, STATE);
        refused(FULL, call, STATE);
    }

    private static void limit() {
        says("A stream has at most 400 bins,");
        row("start; 399* put 0 0", "put 0 0; engine 4; put 0 0; engine 4", "done 400 " + STATE + " 400");
        row("start; 399* pass 0", "pass 0; engine 4; pass 0; engine 4", "done 400 " + STATE + " 400");
        says("A stream has at most 400 bins, marks among them.");
        row("start; 399* mark", "mark; engine 4; mark; engine 4", "done 400 " + STATE + " 400");
        says("A stream has at most 400 bins,", "just enough room for a call, and one bin less");
        fits("put 0 1", 1);
        fits("pass 1", 1);
        fits("mark", 1);
        fits("golomb 0 false 0", 1);
        fits("golomb 0 true 1", 3);
        fits("golomb 2 false 3", 3);
        fits("golomb 0 false 65535", 33);
        fits("golomb 4 true 32768", 29);
        fits("unary 0 1 1", 1);
        fits("unary 0 15 0", 1);
        fits("unary 0 3 3", 3);
        fits("unary 0 15 2", 3);
        fits("unary 28 15 14", 15);
        fits("unary 28 15 15", 15);
        says("A stream has at most 400 bins,", "each of its own, and the end needs no room");
        row(FULL, "finish; engine 4; load", "51 400 true");
        writer(FULL + "; start; mark", "508 0 0 0 1");
        says("A stream has at most 400 bins,", "read to its end");
        row(FULL + "; finish; load; 12* getGolomb 0 false; 3* ended", "getPass; ended", "1 true");
        says("A stream has at most 400 bins,", "reading is not refused behind them");
        row(withBytes(0, 0) + "; load; 400* getPass", "getPass; get 0; ended", "0 0 false");
    }

    private static void wrongNumbers() {
        for (boolean sign : new boolean[] {false, true}) {
            for (int k = 0; k <= 4; k++) {
                String get = "getGolomb " + k + " " + sign;
                String most = sign ? "32768" : "65535";
                String ones = "1".repeat(16 - k);
                int left = (1 << k) - 1;
                says("A number that is read is WRONG as soon as the powers for its bins 1 make more than 65535 "
                        + "together,");
                wrongNumber(ones + "1", "0110", get);
                wrongNumber(ones + "1", "1111", get);
                row(loadedPasses(ones + "0" + bits(16, left)), get, most);
                says("otherwise if it is above 65535 in the end;");
                row(loadedPasses(ones + "0" + bits(16, left) + "1"), get + "; getPass; ended", most + " 1 true");
                wrongNumber(ones + "0" + bits(16, left + 1), "0110", get);
                wrongNumber(ones + "0" + bits(16, 65535), "1001", get);
            }
        }
        says("then the reader reads no more.", "until it loads again");
        row(loadedPasses("1".repeat(20)) + "; getGolomb 0 false", "getPass; load; getPass", STATE + " true 1");
    }

    private static void callsThatThrow() {
        says("A call that throws changes nothing;");
        for (String call : new String[] {"set 32 0 0", "put -1 1", "unary 29 1 1", "at 0", "alter 0 1", "get 32",
            "getUnary 29 1", "about true 32"}) {
            refused(MIDDLE, call, INDEX);
        }
        for (String call : new String[] {"set 0 63 1", "set 0 62 2", "put 0 2", "pass 2", "golomb 5 true 1",
            "golomb 0 false 65536", "unary 0 16 1", "unary 0 1 2", "getGolomb 5 false", "getUnary 0 16", "engine 7"}) {
            refused(MIDDLE, call, ARGUMENT);
        }
        refused(MIDDLE, "load", STATE);
        for (String call : new String[] {"put 0 1", "pass 1", "golomb 0 true 1", "unary 0 1 1", "mark", "finish"}) {
            refused(ENDED, call, STATE);
        }
        for (String call : new String[] {"get 0", "getPass", "getGolomb 0 true", "getUnary 0 1", "ended"}) {
            refused("start; put 0 1; finish; load; get 0; ended", call, STATE);
        }
        says("where several exceptions that a call names fit, the one named first is thrown.");
        for (String call : new String[] {"set 32 63 2", "put 32 2", "put 32 1", "unary 29 16 17", "unary 29 1 1",
            "alter 0 256", "get 32", "getUnary 29 16", "getUnary 29 1"}) {
            refused("", call, INDEX);
        }
        for (String call : new String[] {"put 0 2", "pass 2", "golomb 5 false -1", "unary 0 16 17", "getGolomb 5 false",
            "getUnary 0 16"}) {
            refused("", call, ARGUMENT);
        }
        says("The constants: `WRONG = 100000`: What is read in the place of a number that is wrong.");
        due("WRONG", "" + BinStreams.WRONG, "100000");
        row(loadedPasses("1".repeat(17)), "getGolomb 0 false", "100000");
        row(loadedPasses("1".repeat(33)), "getGolomb 0 true", "100000");
    }

    /** It has read just its own bins then, and no more can be read. */
    private static void wrongNumber(String bins, String behind, String get) {
        String loaded = loadedPasses(bins + behind);
        row(loaded, get, "100000");
        String passes = after(loaded + "; " + bins.length() + "* getPass").askAll("engine 5; engine 6");
        reader(loaded + "; " + get, passes);
        row(loaded + "; " + get, "getPass; get 0; getGolomb 0 false; getUnary 0 1; ended",
                (STATE + " ").repeat(5).trim());
    }

    // ---- Promises

    private static void newObject() {
        chapter = "Promise 1";
        says("All start states 0, likely bins 0;");
        row("start", "abouts false", "0 ".repeat(32).trim());
        row("start; finish; load", "abouts true", "0 ".repeat(32).trim());
        says("nothing is written or loaded.");
        row("", "engines", "0 0 0 0 0 0 0");
        row("", "abouts false", "0 ".repeat(32).trim());
        row("", "abouts true", "0 ".repeat(32).trim());
        row("", "size; at 0; load; getPass; start; finish; load; ended",
                "0 " + INDEX + " " + STATE + " " + STATE + " done 2 true true");
        says("nothing is written or loaded.", "though another object has written and loaded");
        Asked used = after(MIDDLE);
        Asked fresh = new Asked();
        due("a new object beside " + MIDDLE, fresh.askAll("engines; size; load; getPass; start; about false 0"),
                "0 0 0 0 0 0 0 0 " + STATE + " " + STATE + " done 0");
        due(MIDDLE + " beside a new object", used.askAll("engines; getPass; abouts true"),
                after(MIDDLE).askAll("engines; getPass; abouts true"));
    }

    private static void set() {
        chapter = "Promise 2";
        says("The start state and likely bin of a context, for writers that start and readers that load from now on.",
                "writers");
        row("set 6 30 1", "about false 6; about true 6", "0 0");
        row("set 6 30 1; start", "about false 6; about false 5; about false 7", "61 0 0");
        row("start; set 6 30 1", "about false 6; start; about false 6", "0 done 61");
        row("set 6 30 1; set 6 62 0; start", "about false 6", "124");
        row("set 6 30 1; start; put 6 1; start", "about false 6", "61");
        says("The start state and likely bin of a context, for writers that start and readers that load from now on.",
                "readers");
        row("start; finish; set 6 30 1", "about true 6; load; about true 6", "0 true 61");
        row("start; finish; load; set 6 30 1", "about true 6; load; about true 6", "0 true 61");
        says("IndexOutOfBoundsException when there is no such context;", "before the other");
        for (int none : new int[] {-1, 32}) {
            refused(MIDDLE, "set " + none + " 5 1", INDEX);
            refused(MIDDLE, "set " + none + " 63 0", INDEX);
            refused(MIDDLE, "set " + none + " -1 1", INDEX);
            refused(MIDDLE, "set " + none + " 0 2", INDEX);
            refused(MIDDLE, "set " + none + " 63 -1", INDEX);
        }
        says("IllegalArgumentException when state is not 0 .. 62,");
        for (String run : new String[] {"", MIDDLE, ENDED}) {
            for (int none : new int[] {-1, 63}) refused(run, "set 4 " + none + " 1", ARGUMENT);
        }
        refused(MIDDLE, "set 4 63 2", ARGUMENT);
        says("or likely no bin.");
        for (String run : new String[] {"", MIDDLE, ENDED}) {
            for (int none : new int[] {-1, 2}) refused(run, "set 4 62 " + none, ARGUMENT);
        }
    }

    private static void start() {
        chapter = "Promise 3";
        says("The writer starts, without bytes.");
        row("start", "engine 0; size; at 0; pass 1; finish", "510 0 " + INDEX + " done 2");
        says("(Those of the stream before are gone;");
        row(ENDED + "; start", "size; at 0; alter 0 0; load",
                "0 " + INDEX + " " + INDEX + " " + STATE);
        bytes(ENDED + "; start; finish", "254 128");
        bytes(MIDDLE + "; start; finish", "254 128");
        bytes(FULL + "; start; finish", "254 128");
        says("what a reader loaded stays.)");
        String loaded = loadedPasses("110010111000101") + "; getPass";
        row(loaded + "; start", "engine 5; engine 6", after(loaded).askAll("engine 5; engine 6"));
        row(loaded + "; start; passes 0000000000", "14* getPass; ended", "1 0 0 1 0 1 1 1 0 0 0 1 0 1 true");
        row(loaded + "; start; finish", "14* getPass; ended", "1 0 0 1 0 1 1 1 0 0 0 1 0 1 true");
        row("start; put 3 1; put 3 1; finish; load; get 3; set 3 9 0; start", "about true 3; get 3; about true 3",
                "1 1 3");
    }

    private static void put() {
        chapter = "Promise 4";
        says("Writes a decision.");
        writer("start; put 0 0; put 0 0; put 0 1; put 0 1; put 0 1", "256 480 2 4 5");
        row("set 31 61 1; start; put 31 1; put 31 1; put 31 0; put 0 1; finish; load",
                "about false 31; about false 0; get 31; get 31; get 31; get 0; ended", "77 1 1 1 0 1 true");
        says("IndexOutOfBoundsException when there is no such context;", "before all others");
        for (int none : new int[] {-1, 32}) {
            refused(MIDDLE, "put " + none + " 1", INDEX);
            refused(MIDDLE, "put " + none + " 2", INDEX);
            refusedForEach(NOT_WRITING, "put " + none + " 1", INDEX);
            refusedForEach(NOT_WRITING, "put " + none + " -1", INDEX);
        }
        says("IllegalArgumentException when bin is none;", "before IllegalStateException");
        for (int none : new int[] {-1, 2}) refusedForEach(NOT_WRITING, "put 31 " + none, ARGUMENT);
        says("IllegalStateException when the writer has not started, or has ended, or there would be more than 400 "
                + "bins.");
        for (int c : new int[] {0, 3, 31}) refusedForEach(NOT_WRITING, "put " + c + " 1", STATE);
        refusedForEach(NOT_WRITING, "put 0 0", STATE);
    }

    private static void pass() {
        chapter = "Promise 5";
        says("Writes a bin that goes by.");
        writer("start; passes 1100", "510 488 2 4 4");
        row(loadedPasses("1100101"), "7* getPass; ended", "1 1 0 0 1 0 1 true");
        says("IllegalArgumentException when bin is none;", "before IllegalStateException");
        for (int none : new int[] {-1, 2}) refused(MIDDLE, "pass " + none, ARGUMENT);
        for (int none : new int[] {-1, 2}) refusedForEach(NOT_WRITING, "pass " + none, ARGUMENT);
        says("IllegalStateException as for put.");
        refusedForEach(NOT_WRITING, "pass 0", STATE);
        refusedForEach(NOT_WRITING, "pass 1", STATE);
    }

    private static void golomb() {
        chapter = "Promise 6";
        says("Writes a number of an order, signed or not;");
        oneNumber(0, false, 13, "1110110");
        oneNumber(2, true, -5, "10110");
        oneNumber(1, true, 7, "110111");
        says("answers how many bins it took.");
        row("start", "golomb 0 false 0; engine 4; golomb 0 false 13; engine 4; golomb 4 true -8; engine 4",
                "1 1 7 8 7 15");
        says("IllegalArgumentException when order or v are none;", "before IllegalStateException");
        for (String none : new String[] {"-1 false 0", "5 false 0", "5 true 0", "0 false -1", "0 false 65536",
            "4 true -32768", "4 true 32769", "5 false -1"}) {
            refused(MIDDLE, "golomb " + none, ARGUMENT);
            refusedForEach(NOT_WRITING, "golomb " + none, ARGUMENT);
        }
        says("IllegalStateException as for put.");
        for (String v : new String[] {"0 false 0", "0 false 65535", "4 true -32767", "4 true 32768"}) {
            refusedForEach(NOT_WRITING, "golomb " + v, STATE);
        }
    }

    private static void unary() {
        chapter = "Promise 7";
        says("Writes a count;");
        oneCount(3, 5, 2, "110");
        oneCount(3, 5, 5, "11111");
        says("answers how many bins it took.");
        row("start", "unary 3 5 2; engine 4; unary 3 5 4; engine 4; unary 3 5 5; engine 4", "3 3 5 8 5 13");
        says("(All of them, or none if there is no room.)");
        for (int room = 0; room < 3; room++) refused(filled(400 - room), "unary 0 15 2", STATE);
        row(filled(397), "unary 0 15 2; engine 4", "3 400");
        for (int bins = 386; bins < 400; bins++) row(filled(bins), "unary 9 15 15; engine 4", STATE + " " + bins);
        says("IndexOutOfBoundsException when c is not 0 .. 28;", "before all others");
        for (String none : new String[] {"-1 1 0", "29 1 0", "29 0 0", "29 16 0", "29 4 5", "-1 4 -1", "29 0 5"}) {
            refused(MIDDLE, "unary " + none, INDEX);
            refusedForEach(NOT_WRITING, "unary " + none, INDEX);
        }
        says("IllegalArgumentException when most or v are none;", "before IllegalStateException");
        for (String none : new String[] {"0 0 0", "28 16 0", "28 -1 -1", "0 1 2", "0 15 16", "28 4 -1", "0 16 16"}) {
            refused(MIDDLE, "unary " + none, ARGUMENT);
            refusedForEach(NOT_WRITING, "unary " + none, ARGUMENT);
        }
        says("IllegalStateException as for put.");
        for (String v : new String[] {"0 1 0", "0 1 1", "28 15 15", "28 15 0"}) {
            refusedForEach(NOT_WRITING, "unary " + v, STATE);
        }
    }

    private static void mark() {
        chapter = "Promise 8";
        says("Writes a mark.", "it is a bin, and it is no decision and does not go by");
        writer("start; passes 1100; mark", "508 488 2 4 5");
        row("set 0 7 1; start; mark; mark; finish; load", "about false 0; ended; ended; ended", "15 false false true");
        says("IllegalStateException as for put.");
        refusedForEach(NOT_WRITING, "mark", STATE);
    }

    private static void finish() {
        chapter = "Promise 9";
        says("The end of the stream;");
        writer("start; finish", "256 0 0 7 0");
        row("start; pass 1; finish", "put 0 0; pass 0; mark; size", STATE + " " + STATE + " " + STATE + " 2");
        row("start; pass 1; finish; load", "getPass; ended", "1 true");
        says("answers how many bytes there are.");
        row("start", "finish; size", "2 2");
        row("start; passes 00000000", "finish; size", "3 3");
        says("IllegalStateException when the writer has not started, or has ended.", "has not started");
        refused("", "finish", STATE);
        refused(SETS, "finish", STATE);
        says("IllegalStateException when the writer has not started, or has ended.", "has ended");
        refused(ENDED, "finish", STATE);
        refused("start; finish", "finish", STATE);
        says("IllegalStateException when the writer has not started, or has ended.", "and for no other reason");
        row("start; finish; start", "finish; finish", "2 " + STATE);
        row(FULL, "finish; engine 4", "51 400");
    }

    private static void size() {
        chapter = "Promise 10";
        says("How many bytes there are;");
        row("start; finish", "size", "2");
        row("start; finish; alter 1 0; load; ended", "size", "2");
        row("start; finish; start; passes 00000000; finish", "size", "3");
        row("start; passes 00000000; finish; start; finish", "size", "2");
        says("0 before the writer has ended.");
        row("", "size", "0");
        row("start", "size", "0");
        row(filled(400), "size", "0");
        row("start; finish; start", "size", "0");
    }

    private static void at() {
        chapter = "Promise 11";
        says("Byte i.");
        row("start; passes 00000000; finish", "at 0; at 1; at 2", "0 254 128");
        says("IndexOutOfBoundsException when there is none.");
        int size = Integer.parseInt(after(ENDED).ask("size"));
        row(ENDED, "at 0", "77");
        row(ENDED + "; alter " + (size - 1) + " 99", "at " + (size - 1), "99");
        for (int none : new int[] {-1, size, LEAST, LAST}) refused(ENDED, "at " + none, INDEX);
        says("IndexOutOfBoundsException when there is none.", "before the writer has ended");
        refused("", "at 0", INDEX);
        refused(MIDDLE, "at 0", INDEX);
        refused(FULL, "at 0", INDEX);
        refused(ENDED + "; start", "at 0", INDEX);
        says("IndexOutOfBoundsException when there is none.", "of a longer stream before");
        row("start; passes 00000000; finish; start; finish", "at 1; at 2", "128 " + INDEX);
    }

    private static void alter() {
        chapter = "Promise 12";
        says("Byte i becomes b.");
        bytes("start; passes 00000000; finish; alter 0 255", "255 254 128");
        bytes("start; passes 00000000; finish; alter 1 0", "0 0 128");
        bytes("start; passes 00000000; finish; alter 2 255; alter 2 7", "0 254 7");
        row("start; finish; alter 0 0; alter 1 128; load", "engine 6; size", "1 2");
        says("(What is loaded stays.)");
        String loaded = loadedPasses("110010111000101") + "; getPass";
        String altered = loaded + "; alter 0 0; alter 1 0; alter 2 0";
        row(altered, "engine 5; engine 6", after(loaded).askAll("engine 5; engine 6"));
        row(altered, "14* getPass; ended", "1 0 0 1 0 1 1 1 0 0 0 1 0 1 true");
        says("IndexOutOfBoundsException when there is none;");
        int size = Integer.parseInt(after(ENDED).ask("size"));
        for (int none : new int[] {-1, size, LEAST, LAST}) refused(ENDED, "alter " + none + " 5", INDEX);
        refused("", "alter 0 5", INDEX);
        refused(MIDDLE, "alter 0 5", INDEX);
        refused(ENDED + "; start", "alter 0 5", INDEX);
        row("start; passes 00000000; finish; start; finish", "alter 1 5; alter 2 5", "done " + INDEX);
        says("IndexOutOfBoundsException when there is none;", "before the other");
        for (int none : new int[] {-1, size}) {
            refused(ENDED, "alter " + none + " -1", INDEX);
            refused(ENDED, "alter " + none + " 256", INDEX);
        }
        refused("", "alter 0 256", INDEX);
        refused(MIDDLE, "alter 0 -1", INDEX);
        says("IllegalArgumentException when b is not 0 .. 255.");
        for (int none : new int[] {-1, 256, LEAST, LAST}) {
            refused(ENDED, "alter 0 " + none, ARGUMENT);
            refused(ENDED, "alter 1 " + none, ARGUMENT);
        }
    }

    private static void load() {
        chapter = "Promise 13";
        says("answers whether it could: not when the offset is 510 or more;");
        row(withBytes(254, 128), "load; engine 5; engine 6; ended", "true 510 509 true");
        row(withBytes(255, 127), "load; engine 5; engine 6", "false 510 510");
        row(withBytes(255, 128), "load; engine 5; engine 6", "false 510 511");
        row(withBytes(0, 0), "load; engine 5; engine 6", "true 510 0");
        says("then nothing is loaded", "though something was before");
        String before = "start; put 2 1; put 2 1; put 2 1; finish; load; get 2; alter 0 255";
        row(before, "get 2; load; get 2; getPass; getGolomb 0 false; getUnary 2 3; ended",
                "1 false " + (STATE + " ").repeat(5).trim());
        says("(but range, offset and contexts are as if).");
        row(before + "; alter 1 0; set 2 50 1; load", "engine 5; engine 6; about true 2; about false 2",
                "510 510 101 5");
        says("The reader loads the bytes, as they are now, and starts;", "behind a load that could not");
        row(before + "; load; alter 0 0; alter 1 128", "load; engine 6; getPass", "true 1 0");
        says("The reader loads the bytes, as they are now, and starts;");
        row("start; put 2 1; finish; load; get 2; ended", "load; engine 5; about true 2; get 2; ended",
                "true 510 0 1 true");
        row("start; finish; load; alter 0 1; alter 1 0", "engine 6; load; engine 6", "509 true 2");
        says("IllegalStateException when there are no bytes.");
        refused("", "load", STATE);
        refused(SETS + "; start; passes 1100", "load", STATE);
        refused(MIDDLE, "load", STATE);
        refused(ENDED + "; start", "load", STATE);
        refused(FULL, "load", STATE);
    }

    private static void get() {
        chapter = "Promise 14";
        says("Reads a decision.");
        row("set 0 62 1; start; put 0 1; put 0 0; put 0 1; put 1 1; finish; load",
                "get 0; get 0; get 0; get 1; about true 0; about true 1; ended", "1 0 1 1 79 1 true");
        says("IndexOutOfBoundsException when there is no such context;", "before the other");
        for (int none : new int[] {-1, 32}) {
            refused(ENDED, "get " + none, INDEX);
            refusedForEach(NOT_READING, "get " + none, INDEX);
        }
        says("IllegalStateException when nothing is loaded, or the reader reads no more.");
        for (int c : new int[] {0, 3, 31}) refusedForEach(NOT_READING, "get " + c, STATE);
    }

    private static void getPass() {
        chapter = "Promise 15";
        says("Reads a bin that goes by.");
        row(loadedPasses("0010111"), "7* getPass; ended", "0 0 1 0 1 1 1 true");
        says("IllegalStateException as for get.");
        refusedForEach(NOT_READING, "getPass", STATE);
    }

    private static void getGolomb() {
        chapter = "Promise 16";
        says("Reads a number of an order, signed or not;");
        row("start; golomb 0 false 13; golomb 3 true -300; golomb 2 true 300; golomb 4 false 0; finish; load",
                "getGolomb 0 false; getGolomb 3 true; getGolomb 2 true; getGolomb 4 false; ended",
                "13 -300 300 0 true");
        row(loadedPasses("1110110"), "getGolomb 0 true; ended", "7 true");
        says("WRONG when it is.");
        for (String order : new String[] {"0 false", "0 true", "4 false", "4 true"}) {
            row(loadedPasses("1".repeat(20)), "getGolomb " + order, "100000");
        }
        says("IllegalArgumentException when order is none;", "before IllegalStateException");
        for (String none : new String[] {"-1 false", "-1 true", "5 false", "5 true"}) {
            refused(ENDED, "getGolomb " + none, ARGUMENT);
            refusedForEach(NOT_READING, "getGolomb " + none, ARGUMENT);
        }
        says("IllegalStateException as for get.");
        for (String order : new String[] {"0 false", "0 true", "4 false", "4 true"}) {
            refusedForEach(NOT_READING, "getGolomb " + order, STATE);
        }
    }

    private static void getUnary() {
        chapter = "Promise 17";
        says("Reads a count.");
        row("start; unary 0 15 0; unary 28 15 15; unary 3 4 4; unary 3 4 3; finish; load",
                "getUnary 0 15; getUnary 28 15; getUnary 3 4; getUnary 3 4; ended", "0 15 4 3 true");
        says("IndexOutOfBoundsException when c is not 0 .. 28;", "before all others");
        for (String none : new String[] {"-1 1", "29 15", "29 0", "-1 16"}) {
            refused(ENDED, "getUnary " + none, INDEX);
            refusedForEach(NOT_READING, "getUnary " + none, INDEX);
        }
        says("IllegalArgumentException when most is none;", "before IllegalStateException");
        for (String none : new String[] {"0 0", "28 16", "0 -1"}) {
            refused(ENDED, "getUnary " + none, ARGUMENT);
            refusedForEach(NOT_READING, "getUnary " + none, ARGUMENT);
        }
        says("IllegalStateException as for get.");
        for (String count : new String[] {"0 1", "0 15", "28 1", "28 15"}) {
            refusedForEach(NOT_READING, "getUnary " + count, STATE);
        }
    }

    private static void ended() {
        chapter = "Promise 18";
        says("Reads a mark or the end: whether it is the end;");
        row("start; mark; finish; load", "ended; ended", "false true");
        row("start; finish; load", "ended", "true");
        row("start; mark; finish; load; ended", "getPass", "1");
        says("then the reader reads no more.");
        row("start; mark; finish; load; ended; ended", "ended; get 0; getPass; getGolomb 0 true; getUnary 0 1",
                (STATE + " ").repeat(5).trim());
        row("start; finish; load; ended", "getPass; load; ended", STATE + " true true");
        says("IllegalStateException as for get.");
        refusedForEach(NOT_READING, "ended", STATE);
    }

    private static void about() {
        chapter = "Promise 19";
        says("Of a context, of the writer or the reader: twice its state, and 1 more when 1 is likely.");
        String sets = "set 0 0 0; set 1 0 1; set 2 62 0; set 31 62 1; start";
        row(sets, "about false 0; about false 1; about false 2; about false 31", "0 1 124 125");
        row(sets, "about true 0; about true 1; about true 2; about true 31", "0 0 0 0");
        row(sets + "; finish; load", "about true 0; about true 1; about true 2; about true 31", "0 1 124 125");
        says("IndexOutOfBoundsException when there is no such context.");
        for (String run : new String[] {"", MIDDLE, ENDED, FULL}) {
            for (int none : new int[] {-1, 32}) {
                refused(run, "about false " + none, INDEX);
                refused(run, "about true " + none, INDEX);
            }
        }
    }

    private static void engine() {
        chapter = "Promise 20";
        says("What = 0 the writer's range, 1 its low, 2 how many bits wait, 3 its shifts, 4 its bins, 5 the reader's "
                + "range, 6 its offset;");
        row("start; finish; load; start; passes 1100", "engines", "510 488 2 4 4 510 509");
        row("start; finish; load; start; passes 1100; mark; finish", "engines", "256 256 0 11 5 510 509");
        says("all 0 at first (contexts, too, have state 0).");
        row("", "engines", "0 0 0 0 0 0 0");
        row(SETS, "engines; about false 0; about true 31", "0 0 0 0 0 0 0 0 0");
        says("IllegalArgumentException when what is none of these.");
        for (String run : new String[] {"", MIDDLE, ENDED}) {
            for (int none : new int[] {-1, 7, LEAST, LAST}) refused(run, "engine " + none, ARGUMENT);
        }
    }

    private static void terms() {
        chapter = "Terms";
        bins();
        contexts();
        states();
        learning();
        writerStarts();
        giving();
        shifting();
        decision();
        goingBy();
        marks();
        end();
        readerLoads();
        readerShifts();
        readerDecides();
        readerGoesBy();
        readerMeetsMarks();
        numbers();
        signed();
        counts();
        limit();
        wrongNumbers();
        callsThatThrow();
    }

    private static void promises() {
        newObject();
        set();
        start();
        put();
        pass();
        golomb();
        unary();
        mark();
        finish();
        size();
        at();
        alter();
        load();
        get();
        getPass();
        getGolomb();
        getUnary();
        ended();
        about();
        engine();
    }

    // ---- The quotes and the document

    /** What the document says in words, chapter by chapter; a signature in a promise is FaceTest's. */
    private static Map<String, String> chaptersOfDocument() throws IOException {
        Map<String, String> all = new TreeMap<>();
        for (String part : Files.readString(DOCUMENT).split("(?m)^## ")) {
            int end = part.indexOf('\n');
            String name = part.substring(0, end).replaceFirst(":.*", "");
            String text = part.substring(end).replaceAll("(?m)^```.*$", "").replaceAll("\\s+", " ").trim();
            all.put(name, name.startsWith("Promise") ? text.replaceFirst("^`[^`]*`: ", "") : text);
        }
        all.keySet().removeAll(ELSEWHERE);
        return all;
    }

    private static void fault(String text) {
        wrong++;
        System.out.println(text);
    }

    /** Blanks stand for what has a test. */
    private static void layOver(Map<String, String> said, Map<String, StringBuilder> left, Quote quote) {
        String text = said.getOrDefault(quote.chapter(), "");
        int at = text.indexOf(quote.text());
        if (at < 0 || at != text.lastIndexOf(quote.text())) {
            fault("the document does not say just once: " + quote);
            return;
        }
        int end = at + quote.text().length();
        left.get(quote.chapter()).replace(at, end, " ".repeat(end - at));
    }

    private static void eachSentenceHasRows() throws IOException {
        if (!Files.exists(DOCUMENT)) {
            System.out.println("the document is not there, so the quotes are not compared with it");
            return;
        }
        Map<String, String> said = chaptersOfDocument();
        Map<String, StringBuilder> left = new TreeMap<>();
        said.forEach((name, text) -> left.put(name, new StringBuilder(text)));
        for (int i = 0; i < QUOTES.size(); i++) {
            int rowsBehind = i + 1 < QUOTES.size() ? QUOTES.get(i + 1).rowsBefore() : rows;
            if (rowsBehind == QUOTES.get(i).rowsBefore()) fault("there are no rows for " + QUOTES.get(i));
            layOver(said, left, QUOTES.get(i));
        }
        left.forEach((name, text) -> {
            String rest = text.toString().replaceFirst(TABLES, "").replace(FREE, "").trim();
            if (!rest.isEmpty()) fault("there is no test for what " + name + " says: " + rest);
        });
    }

    public static void main(String[] args) throws IOException {
        whatItIs();
        calls();
        terms();
        promises();
        eachSentenceHasRows();
        System.out.println(wrong == 0 ? "the sentences hold, in " + rows + " rows" : wrong + " rows are not as due");
        if (wrong != 0) System.exit(1);
    }
}
