import java.math.BigInteger;
import java.util.ArrayList;
import java.util.List;
import java.util.Random;

/**
 * Long runs of calls of all kinds, compared with a model. The model's low is one exact number that never loses a bit,
 * so it has no carries: the bytes are simply that number in the end. Its reader compares exact numbers likewise.
 */
public final class ModelTest {
    private static final int RUNS = 4000;
    private static final int CALLS = 512;

    private static final String R = """
  128 176 208 240 128 167 197 227 128 158 187 216 123 150 178 205 116 142 169 195 111 135 160 185 105 128 152 175
  100 122 144 166 95 116 137 158 90 110 130 150 85 104 123 142 81 99 117 135 77 94 111 128 73 89 105 122
  69 85 100 116 66 80 95 110 62 76 90 104 59 72 86 99 56 69 81 94 53 65 77 89 51 62 73 85
  48 59 69 80 46 56 66 76 43 53 63 72 41 50 59 69 39 48 56 65 37 45 54 62 35 43 51 59
  33 41 48 56 32 39 46 53 30 37 43 50 29 35 41 48 27 33 39 45 26 31 37 43 24 30 35 41
  23 28 33 39 22 27 32 37 21 26 30 35 20 24 29 33 19 23 27 31 18 22 26 30 17 21 25 28
  16 20 23 27 15 19 22 25 14 18 21 24 14 17 20 23 13 16 19 22 12 15 18 21 12 14 17 20
  11 14 16 19 11 13 15 18 10 12 15 17 10 12 14 16 9 11 13 15 9 11 12 14 8 10 12 14
  8 9 11 13 7 9 11 12 7 9 10 12 7 8 10 11 6 8 9 11 6 7 9 10 6 7 8 9
        """;
    private static final String T = "0 0 1 2 2 4 4 5 6 7 8 9 9 11 11 12 13 13 15 15 16 16 18 18 19 19 21 21 22 22 "
            + "23 24 24 25 26 26 27 27 28 29 29 30 30 30 31 32 32 33 33 33 34 34 35 35 35 36 36 36 37 37 37 38 38";
    private static final int[] PARTS = numbers(R);
    private static final int[] FALLS = numbers(T);

    private static final String INDEX = "IndexOutOfBoundsException";
    private static final String ARGUMENT = "IllegalArgumentException";
    private static final String STATE = "IllegalStateException";

    enum Kind {
        SET, START, PUT, PASS, GOLOMB, UNARY, MARK, FINISH, SIZE, AT, ALTER, LOAD, GET, GET_PASS, GET_GOLOMB, GET_UNARY,
        ENDED, ABOUT, ENGINE
    }

    /** A call; b stands for a boolean where the call has one: true when it is not 0. */
    record Call(Kind kind, int a, int b, int c) {
    }

    private static int wrong = 0;

    private static int[] numbers(String text) {
        String[] words = text.trim().split("\\s+");
        int[] all = new int[words.length];
        for (int i = 0; i < all.length; i++) all[i] = Integer.parseInt(words[i]);
        return all;
    }

    private static Object ask(BinStreams x, Call call) {
        int a = call.a(), b = call.b(), c = call.c();
        try {
            switch (call.kind()) {
                case SET: x.set(a, b, c); return "done";
                case START: x.start(); return "done";
                case PUT: x.put(a, b); return "done";
                case PASS: x.pass(a); return "done";
                case GOLOMB: return x.golomb(a, b != 0, c);
                case UNARY: return x.unary(a, b, c);
                case MARK: x.mark(); return "done";
                case FINISH: return x.finish();
                case SIZE: return x.size();
                case AT: return x.at(a);
                case ALTER: x.alter(a, b); return "done";
                case LOAD: return x.load();
                case GET: return x.get(a);
                case GET_PASS: return x.getPass();
                case GET_GOLOMB: return x.getGolomb(a, b != 0);
                case GET_UNARY: return x.getUnary(a, b);
                case ENDED: return x.ended();
                case ABOUT: return x.about(b != 0, a);
                default: return x.engine(a);
            }
        } catch (RuntimeException e) {
            return e.getClass().getSimpleName();
        }
    }

    /** The document in exact numbers. */
    private static final class Model {
        final int[] starts = new int[32];
        int[] written = new int[32];
        int[] read = new int[32];
        boolean writing;
        BigInteger exact = BigInteger.ZERO;
        int range, low, waiting, shifts, bins;
        int[] bytes = {};
        boolean reading;
        String bits = "";
        BigInteger seen = BigInteger.ZERO;
        BigInteger base = BigInteger.ZERO;
        int readRange, taken;

        static boolean in(int x, int least, int last) {
            return x >= least && x <= last;
        }

        static BigInteger twice(BigInteger x) {
            return x.shiftLeft(1);
        }

        static int part(int about, int range) {
            return PARTS[4 * (about / 2) + range / 64 % 4];
        }

        static int learnt(int about, int bin) {
            int state = about / 2, likely = about % 2;
            if (bin == likely) return 2 * Math.min(62, state + 1) + likely;
            return 2 * FALLS[state] + (state == 0 ? bin : likely);
        }

        /** Waiting bits are ones below a 0: with them, the exact low is what was given, 01..1, and the rest. */
        void grow(BigInteger bigger) {
            int doubled = bigger.subtract(BigInteger.TWO.pow(waiting).subtract(BigInteger.ONE).shiftLeft(10))
                    .mod(BigInteger.TWO.pow(11 + waiting)).intValueExact();
            exact = bigger;
            shifts++;
            waiting = doubled >= 512 && doubled < 1024 ? waiting + 1 : 0;
            low = waiting > 0 ? doubled - 512 : doubled % 1024;
        }

        void addToLow(int more) {
            exact = exact.add(BigInteger.valueOf(more));
            low += more;
        }

        void shift() {
            while (range < 256) {
                range *= 2;
                grow(twice(exact));
            }
        }

        void decision(int context, int bin) {
            int r = part(written[context], range);
            range -= r;
            if (bin != written[context] % 2) {
                addToLow(range);
                range = r;
            }
            written[context] = learnt(written[context], bin);
            shift();
            bins++;
        }

        void by(int bin) {
            grow(twice(exact).add(BigInteger.valueOf((long) bin * range)));
            bins++;
        }

        /** Just the number's bins as a text: (v / 2^k + 1) without its first digit has as many digits as ones. */
        static String binsOf(int order, int v) {
            String high = Integer.toBinaryString((v >> order) + 1);
            String rest = Integer.toBinaryString(1 << order | v & (1 << order) - 1).substring(1);
            return "1".repeat(high.length() - 1) + "0" + high.substring(1) + rest;
        }

        Object golomb(int order, boolean signed, int v) {
            if (!in(order, 0, 4) || !(signed ? in(v, -32767, 32768) : in(v, 0, 65535))) return ARGUMENT;
            String all = binsOf(order, signed ? (v > 0 ? 2 * v - 1 : -2 * v) : v);
            if (!writing || bins + all.length() > 400) return STATE;
            for (char c : all.toCharArray()) by(c - '0');
            return all.length();
        }

        Object unary(int c, int most, int v) {
            if (!in(c, 0, 28)) return INDEX;
            if (!in(most, 1, 15) || !in(v, 0, most)) return ARGUMENT;
            String all = "1".repeat(v) + (v < most ? "0" : "");
            if (!writing || bins + all.length() > 400) return STATE;
            for (int i = 0; i < all.length(); i++) decision(c + Math.min(3, i), all.charAt(i) - '0');
            return all.length();
        }

        Object start() {
            writing = true;
            written = starts.clone();
            exact = BigInteger.ZERO;
            range = 510;
            low = waiting = shifts = bins = 0;
            bytes = new int[0];
            return "done";
        }

        Object finish() {
            if (!writing) return STATE;
            writing = false;
            range -= 2;
            addToLow(range);
            range = 2;
            shift();
            waiting = 0;
            BigInteger all = twice(exact.shiftRight(8)).add(BigInteger.ONE);
            int length = shifts + 2;
            int size = (length + 7) / 8;
            all = all.shiftLeft(8 * size - length);
            bytes = new int[size];
            for (int i = 0; i < size; i++) bytes[i] = all.shiftRight(8 * (size - 1 - i)).intValue() & 255;
            return size;
        }

        Object load() {
            if (bytes.length == 0) return STATE;
            StringBuilder all = new StringBuilder();
            for (int b : bytes) all.append(Integer.toBinaryString(256 | b).substring(1));
            bits = all.toString();
            read = starts.clone();
            seen = base = BigInteger.ZERO;
            taken = 0;
            for (int i = 0; i < 9; i++) take();
            readRange = 510;
            reading = offset() < 510;
            return reading;
        }

        void take() {
            seen = twice(seen);
            if (taken < bits.length() && bits.charAt(taken) == '1') seen = seen.add(BigInteger.ONE);
            base = twice(base);
            taken++;
        }

        int offset() {
            return seen.subtract(base).intValueExact();
        }

        void shiftReader() {
            while (readRange < 256) {
                readRange *= 2;
                take();
            }
        }

        int readDecision(int context) {
            int r = part(read[context], readRange);
            int bin = read[context] % 2;
            readRange -= r;
            if (offset() >= readRange) {
                base = base.add(BigInteger.valueOf(readRange));
                readRange = r;
                bin = 1 - bin;
            }
            read[context] = learnt(read[context], bin);
            shiftReader();
            return bin;
        }

        int readBy() {
            take();
            if (offset() < readRange) return 0;
            base = base.add(BigInteger.valueOf(readRange));
            return 1;
        }

        Object readGolomb(int order, boolean signed) {
            if (!in(order, 0, 4)) return ARGUMENT;
            if (!reading) return STATE;
            long sum = 0;
            int k = order;
            while (sum <= 65535 && readBy() == 1) sum += 1L << k++;
            long rest = 0;
            if (sum <= 65535) for (int i = 0; i < k; i++) rest = rest * 2 + readBy();
            if (sum + rest > 65535) {
                reading = false;
                return 100000;
            }
            int v = (int) (sum + rest);
            return !signed ? v : v % 2 == 0 ? -v / 2 : (v + 1) / 2;
        }

        Object readUnary(int c, int most) {
            if (!in(c, 0, 28)) return INDEX;
            if (!in(most, 1, 15)) return ARGUMENT;
            if (!reading) return STATE;
            int v = 0;
            while (v < most && readDecision(c + Math.min(v, 3)) == 1) v++;
            return v;
        }

        Object ended() {
            if (!reading) return STATE;
            readRange -= 2;
            reading = offset() < readRange;
            if (reading) shiftReader();
            return !reading;
        }

        Object engine(int what) {
            int[] all = {range, low, waiting, shifts, bins, readRange, offset()};
            return in(what, 0, 6) ? all[what] : ARGUMENT;
        }

        Object ask(Call call) {
            int a = call.a(), b = call.b(), c = call.c();
            boolean room = writing && bins < 400;
            switch (call.kind()) {
                case SET:
                    if (!in(a, 0, 31)) return INDEX;
                    if (!in(b, 0, 62) || !in(c, 0, 1)) return ARGUMENT;
                    starts[a] = 2 * b + c;
                    return "done";
                case START: return start();
                case PUT:
                    if (!in(a, 0, 31)) return INDEX;
                    if (!in(b, 0, 1)) return ARGUMENT;
                    if (!room) return STATE;
                    decision(a, b);
                    return "done";
                case PASS:
                    if (!in(a, 0, 1)) return ARGUMENT;
                    if (!room) return STATE;
                    by(a);
                    return "done";
                case GOLOMB: return golomb(a, b != 0, c);
                case UNARY: return unary(a, b, c);
                case MARK:
                    if (!room) return STATE;
                    range -= 2;
                    shift();
                    bins++;
                    return "done";
                case FINISH: return finish();
                case SIZE: return bytes.length;
                case AT: return in(a, 0, bytes.length - 1) ? bytes[a] : INDEX;
                case ALTER:
                    if (!in(a, 0, bytes.length - 1)) return INDEX;
                    if (!in(b, 0, 255)) return ARGUMENT;
                    bytes[a] = b;
                    return "done";
                case LOAD: return load();
                case GET: return !in(a, 0, 31) ? INDEX : !reading ? STATE : (Object) readDecision(a);
                case GET_PASS: return !reading ? STATE : (Object) readBy();
                case GET_GOLOMB: return readGolomb(a, b != 0);
                case GET_UNARY: return readUnary(a, b);
                case ENDED: return ended();
                case ABOUT: return !in(a, 0, 31) ? INDEX : (Object) (b != 0 ? read : written)[a];
                default: return engine(a);
            }
        }
    }

    /** One object and its model, side by side, for as many calls as an object is used. */
    private static final class Run {
        final int number;
        final Random random;
        final BinStreams x = new BinStreams();
        final Model model = new Model();
        final List<Call> script = new ArrayList<>();
        int calls = 0;
        boolean failed = false;

        Run(int number) {
            this.number = number;
            this.random = new Random(number);
        }

        boolean open() {
            return calls < CALLS && !failed;
        }

        Object call(Kind kind, int a, int b, int c) {
            if (!open()) return "closed";
            calls++;
            Call call = new Call(kind, a, b, c);
            Object want = model.ask(call);
            Object got = ModelTest.ask(x, call);
            if (!want.equals(got)) {
                failed = true;
                wrong++;
                System.out.println("run " + number + ", call " + calls + ": " + call + " answered " + got
                        + ", due is " + want);
            }
            return want;
        }

        int upTo(int last) {
            return random.nextInt(last + 1);
        }

        boolean chance(int ofHundred) {
            return random.nextInt(100) < ofHundred;
        }

        void glance() {
            if (chance(30)) call(Kind.ENGINE, upTo(6), 0, 0);
            if (chance(15)) call(Kind.ABOUT, upTo(31), upTo(1), 0);
        }

        int wild() {
            int[] some = {-1, 0, 1, 2, 3, 4, 5, 15, 16, 28, 29, 31, 32, 62, 63, 255, 256, -32768, -32767, 32768, 32769,
                65535, 65536, Integer.MAX_VALUE, Integer.MIN_VALUE};
            return some[upTo(some.length - 1)];
        }

        /** Any call but those that would end the stream or the reading for good. */
        void wildCall() {
            Kind kind = Kind.values()[upTo(Kind.values().length - 1)];
            boolean keeps = kind != Kind.START && kind != Kind.FINISH && kind != Kind.LOAD;
            if (keeps || chance(5)) call(kind, wild(), wild(), wild());
        }

        int number(boolean signed) {
            int size = 1 << upTo(16);
            int v = chance(10) ? 65535 : upTo(Math.min(size, 65535));
            return !signed ? v : v % 2 == 0 ? -v / 2 : (v + 1) / 2;
        }

        void writeOne(int bias, int contexts) {
            int kind = upTo(9);
            Call one;
            int bin = chance(bias) ? 1 : 0;
            if (kind < 5) one = new Call(Kind.PUT, upTo(contexts), bin, 0);
            else if (kind < 7) one = new Call(Kind.PASS, bin, 0, 0);
            else if (kind == 7) {
                int signed = upTo(1);
                one = new Call(Kind.GOLOMB, upTo(4), signed, number(signed == 1));
            } else if (kind == 8) {
                int most = 1 + upTo(14);
                one = new Call(Kind.UNARY, upTo(28), most, upTo(most));
            } else one = new Call(Kind.MARK, 0, 0, 0);
            Object answer = call(one.kind(), one.a(), one.b(), one.c());
            if (!answer.equals(STATE)) script.add(one);
        }

        void readOne(Call one) {
            switch (one.kind()) {
                case PUT: call(Kind.GET, one.a(), 0, 0); break;
                case PASS: call(Kind.GET_PASS, 0, 0, 0); break;
                case GOLOMB: call(Kind.GET_GOLOMB, one.a(), one.b(), 0); break;
                case UNARY: call(Kind.GET_UNARY, one.a(), one.b(), 0); break;
                default: call(Kind.ENDED, 0, 0, 0);
            }
        }

        void stream(int length) {
            for (int i = upTo(8); i > 0; i--) call(Kind.SET, upTo(31), upTo(62), upTo(1));
            script.clear();
            call(Kind.START, 0, 0, 0);
            int bias = upTo(100), contexts = upTo(31);
            for (int i = 0; i < length && open(); i++) {
                writeOne(bias, contexts);
                glance();
                if (chance(4)) wildCall();
            }
            call(Kind.FINISH, 0, 0, 0);
            call(Kind.SIZE, 0, 0, 0);
            for (int i = upTo(12); i > 0; i--) call(Kind.AT, upTo(Math.max(0, model.bytes.length)), 0, 0);
        }

        void alterSome() {
            for (int i = 1 + upTo(3); i > 0; i--) {
                int value = chance(20) ? 255 : chance(20) ? 0 : upTo(255);
                call(Kind.ALTER, upTo(Math.max(0, model.bytes.length - 1)), value, 0);
            }
        }

        void readBack() {
            for (Call one : script) {
                readOne(one);
                glance();
                if (chance(3)) wildCall();
            }
            call(Kind.ENDED, 0, 0, 0);
            glance();
        }

        void whole() {
            int length = chance(30) ? 150 : 5 + upTo(60);
            while (open()) {
                stream(length);
                if (chance(40)) alterSome();
                call(Kind.LOAD, 0, 0, 0);
                if (chance(20)) call(Kind.START, 0, 0, 0);
                if (chance(20)) alterSome();
                readBack();
            }
        }
    }

    /** Unlikely bins of the highest states: the most bits that decisions can make. */
    private static void longest() {
        Run run = new Run(-1);
        for (int c = 0; c < 32; c++) run.call(Kind.SET, c, 62, 0);
        run.call(Kind.START, 0, 0, 0);
        for (int i = 0; i < 401; i++) {
            int best = 0;
            for (int c = 0; c < 32; c++) if (run.model.written[c] > run.model.written[best]) best = c;
            run.call(Kind.PUT, best, 1 - run.model.written[best] % 2, 0);
        }
        run.call(Kind.FINISH, 0, 0, 0);
        for (int i = 0; i < 30; i++) run.call(Kind.AT, run.model.bytes.length - i, 0, 0);
        run.call(Kind.LOAD, 0, 0, 0);
        while (run.open()) run.call(Kind.GET, run.calls % 32, 0, 0);
    }

    /** Range 510 and a low next to 512: bits wait through the whole stream, and then one carry settles them all. */
    private static void longestWait(int lastBin) {
        Run run = new Run(-2 - lastBin);
        run.call(Kind.START, 0, 0, 0);
        for (int i = 0; i < 399; i++) {
            int doubled = 2 * run.model.low;
            int bin = doubled > 512 ? 0 : 1;
            run.call(Kind.PASS, bin, 0, 0);
            if (i % 8 == 0) run.call(Kind.ENGINE, 2, 0, 0);
        }
        run.call(Kind.PASS, lastBin, 0, 0);
        run.call(Kind.ENGINE, 2, 0, 0);
        run.call(Kind.FINISH, 0, 0, 0);
        for (int i = 0; i < run.model.bytes.length; i++) run.call(Kind.AT, i, 0, 0);
    }

    public static void main(String[] args) {
        longest();
        longestWait(0);
        longestWait(1);
        for (int i = 0; i < RUNS && wrong < 20; i++) new Run(i).whole();
        System.out.println(wrong == 0 ? "all runs are as the model's" : wrong + " runs are not as the model's");
        if (wrong != 0) System.exit(1);
    }
}
