import java.util.Arrays;

/** Streams of bins, coded by an arithmetic coder whose contexts learn. */
public final class BinStreams {
    public static final int WRONG = 100000;

    private static final int CONTEXTS = 32;
    private static final int LAST_STATE = 62;
    private static final int LAST_ORDER = 4;
    private static final int LAST_NUMBER = 65535;
    /** The powers 2^0 .. 2^15 make LAST_NUMBER together, so no number that is right goes on to 2^16. */
    private static final int LAST_POWER = 16;
    private static final int LEAST_SIGNED = -32767;
    private static final int LAST_SIGNED = 32768;
    private static final int LAST_COUNT = 15;
    /** A count has contexts of its own for its first bins; all further ones share the last. */
    private static final int LAST_OWN_CONTEXT = 3;
    private static final int MOST_BINS = 400;
    private static final int FIRST_RANGE = 510;
    private static final int LEAST_RANGE = 256;
    /** The range is never less than 2, and 2 has to double seven times. */
    private static final int MOST_DOUBLINGS = 7;
    /** A bin shifts six times at most, since no r is less than 6; with the end this makes 2409 bits. */
    private static final int MOST_BYTES = 302;

    /** The table R: four numbers for each state. */
    private static final int[] R = {
        128, 176, 208, 240, 128, 167, 197, 227, 128, 158, 187, 216, 123, 150, 178, 205,
        116, 142, 169, 195, 111, 135, 160, 185, 105, 128, 152, 175, 100, 122, 144, 166,
        95, 116, 137, 158, 90, 110, 130, 150, 85, 104, 123, 142, 81, 99, 117, 135,
        77, 94, 111, 128, 73, 89, 105, 122, 69, 85, 100, 116, 66, 80, 95, 110,
        62, 76, 90, 104, 59, 72, 86, 99, 56, 69, 81, 94, 53, 65, 77, 89,
        51, 62, 73, 85, 48, 59, 69, 80, 46, 56, 66, 76, 43, 53, 63, 72,
        41, 50, 59, 69, 39, 48, 56, 65, 37, 45, 54, 62, 35, 43, 51, 59,
        33, 41, 48, 56, 32, 39, 46, 53, 30, 37, 43, 50, 29, 35, 41, 48,
        27, 33, 39, 45, 26, 31, 37, 43, 24, 30, 35, 41, 23, 28, 33, 39,
        22, 27, 32, 37, 21, 26, 30, 35, 20, 24, 29, 33, 19, 23, 27, 31,
        18, 22, 26, 30, 17, 21, 25, 28, 16, 20, 23, 27, 15, 19, 22, 25,
        14, 18, 21, 24, 14, 17, 20, 23, 13, 16, 19, 22, 12, 15, 18, 21,
        12, 14, 17, 20, 11, 14, 16, 19, 11, 13, 15, 18, 10, 12, 15, 17,
        10, 12, 14, 16, 9, 11, 13, 15, 9, 11, 12, 14, 8, 10, 12, 14,
        8, 9, 11, 13, 7, 9, 11, 12, 7, 9, 10, 12, 7, 8, 10, 11,
        6, 8, 9, 11, 6, 7, 9, 10, 6, 7, 8, 9
    };

    /** The row T: the state behind a bin that was not the likely one. */
    private static final int[] T = {
        0, 0, 1, 2, 2, 4, 4, 5, 6, 7, 8, 9, 9, 11, 11, 12,
        13, 13, 15, 15, 16, 16, 18, 18, 19, 19, 21, 21, 22, 22, 23, 24,
        24, 25, 26, 26, 27, 27, 28, 29, 29, 30, 30, 30, 31, 32, 32, 33,
        33, 33, 34, 34, 35, 35, 35, 36, 36, 36, 37, 37, 37, 38, 38
    };

    private final Contexts starts;
    private final Writer writer;
    private final Reader reader;

    public BinStreams() {
        starts = new Contexts();
        writer = new Writer();
        reader = new Reader();
    }

    public void set(int context, int state, int likely)
            throws IndexOutOfBoundsException, IllegalArgumentException {
        checkContext(context);
        if (state < 0 || state > LAST_STATE) {
            throw new IllegalArgumentException("no such state");
        }
        checkBin(likely);
        starts.states[context] = state;
        starts.likely[context] = likely;
    }

    public void start() {
        writer.begin(starts);
    }

    public void put(int context, int bin)
            throws IndexOutOfBoundsException, IllegalArgumentException, IllegalStateException {
        checkContext(context);
        checkBin(bin);
        checkRoom(1);
        writer.decide(context, bin);
    }

    public void pass(int bin) throws IllegalArgumentException, IllegalStateException {
        checkBin(bin);
        checkRoom(1);
        writer.goBy(bin);
    }

    public int golomb(int order, boolean signed, int v) throws IllegalArgumentException, IllegalStateException {
        checkOrder(order);
        checkNumber(signed, v);
        int number = signed ? withoutSign(v) : v;
        int bins = binsOfNumber(order, number);
        checkRoom(bins);
        writer.writeNumber(order, number);
        return bins;
    }

    public int unary(int c, int most, int v)
            throws IndexOutOfBoundsException, IllegalArgumentException, IllegalStateException {
        checkFirstContext(c);
        checkMost(most);
        if (v < 0 || v > most) {
            throw new IllegalArgumentException("no such count");
        }
        int bins = v < most ? v + 1 : v;
        checkRoom(bins);
        writer.writeCount(c, bins, v);
        return bins;
    }

    public void mark() throws IllegalStateException {
        checkRoom(1);
        writer.writeMark();
    }

    public int finish() throws IllegalStateException {
        checkWriting();
        writer.end();
        return writer.byteCount;
    }

    public int size() {
        return writer.byteCount;
    }

    public int at(int i) throws IndexOutOfBoundsException {
        checkByteIndex(i);
        return writer.bytes[i];
    }

    public void alter(int i, int b) throws IndexOutOfBoundsException, IllegalArgumentException {
        checkByteIndex(i);
        if (b < 0 || b > 255) {
            throw new IllegalArgumentException("no byte");
        }
        writer.bytes[i] = b;
    }

    public boolean load() throws IllegalStateException {
        if (writer.byteCount == 0) {
            throw new IllegalStateException("no bytes");
        }
        return reader.begin(starts, writer.bytes, writer.byteCount);
    }

    public int get(int context) throws IndexOutOfBoundsException, IllegalStateException {
        checkContext(context);
        checkReading();
        return reader.decide(context);
    }

    public int getPass() throws IllegalStateException {
        checkReading();
        return reader.goBy();
    }

    public int getGolomb(int order, boolean signed) throws IllegalArgumentException, IllegalStateException {
        checkOrder(order);
        checkReading();
        int number = reader.readNumber(order);
        return signed && number != WRONG ? withSign(number) : number;
    }

    public int getUnary(int c, int most)
            throws IndexOutOfBoundsException, IllegalArgumentException, IllegalStateException {
        checkFirstContext(c);
        checkMost(most);
        checkReading();
        return reader.readCount(c, most);
    }

    public boolean ended() throws IllegalStateException {
        checkReading();
        return reader.meetsEnd();
    }

    public int about(boolean reader, int context) throws IndexOutOfBoundsException {
        checkContext(context);
        Contexts contexts = reader ? this.reader.contexts : writer.contexts;
        return 2 * contexts.states[context] + contexts.likely[context];
    }

    public int engine(int what) throws IllegalArgumentException {
        switch (what) {
            case 0: return writer.range;
            case 1: return writer.low;
            case 2: return writer.waiting;
            case 3: return writer.shifts;
            case 4: return writer.bins;
            case 5: return reader.range;
            case 6: return reader.offset;
            default: throw new IllegalArgumentException("no such part");
        }
    }

    private static void checkContext(int context) {
        if (context < 0 || context >= CONTEXTS) {
            throw new IndexOutOfBoundsException("no such context");
        }
    }

    private static void checkFirstContext(int c) {
        if (c < 0 || c >= CONTEXTS - LAST_OWN_CONTEXT) {
            throw new IndexOutOfBoundsException("no such contexts for a count");
        }
    }

    private static void checkBin(int bin) {
        if (bin != 0 && bin != 1) {
            throw new IllegalArgumentException("no bin");
        }
    }

    private static void checkOrder(int order) {
        if (order < 0 || order > LAST_ORDER) {
            throw new IllegalArgumentException("no such order");
        }
    }

    private static void checkNumber(boolean signed, int v) {
        int least = signed ? LEAST_SIGNED : 0;
        int last = signed ? LAST_SIGNED : LAST_NUMBER;
        if (v < least || v > last) {
            throw new IllegalArgumentException("no such number");
        }
    }

    private static void checkMost(int most) {
        if (most < 1 || most > LAST_COUNT) {
            throw new IllegalArgumentException("no such most");
        }
    }

    private void checkWriting() {
        if (!writer.writing) {
            throw new IllegalStateException("the writer has not started, or has ended");
        }
    }

    private void checkRoom(int more) {
        checkWriting();
        if (writer.bins + more > MOST_BINS) {
            throw new IllegalStateException("no room for more bins");
        }
    }

    private void checkByteIndex(int i) {
        if (i < 0 || i >= writer.byteCount) {
            throw new IndexOutOfBoundsException("no such byte");
        }
    }

    private void checkReading() {
        if (!reader.reading) {
            throw new IllegalStateException("nothing is loaded, or the reader reads no more");
        }
    }

    private static int withoutSign(int v) {
        return v > 0 ? 2 * v - 1 : -2 * v;
    }

    private static int withSign(int number) {
        return number % 2 == 1 ? (number + 1) / 2 : -(number / 2);
    }

    /** Counted before anything is written, because a number is written whole or not at all. */
    private static int binsOfNumber(int order, int number) {
        int left = number;
        int ones = 0;
        for (int k = order; k < LAST_POWER && left >= (1 << k); k++) {
            left -= 1 << k;
            ones++;
        }
        return ones + 1 + order + ones;
    }

    private static int contextOfCount(int c, int i) {
        return c + Math.min(i, LAST_OWN_CONTEXT);
    }

    /** A state and a likely bin for each context. */
    private static final class Contexts {
        final int[] states = new int[CONTEXTS];
        final int[] likely = new int[CONTEXTS];

        void become(Contexts other) {
            System.arraycopy(other.states, 0, states, 0, CONTEXTS);
            System.arraycopy(other.likely, 0, likely, 0, CONTEXTS);
        }

        int unlikelyPart(int context, int range) {
            return R[4 * states[context] + range / 64 % 4];
        }

        void learn(int context, int bin) {
            int state = states[context];
            if (bin == likely[context]) {
                states[context] = Math.min(state + 1, LAST_STATE);
                return;
            }
            if (state == 0) {
                likely[context] = 1 - likely[context];
            }
            states[context] = T[state];
        }
    }

    /** Makes the bytes of a stream; it holds back bits that a carry could still change. */
    private static final class Writer {
        final Contexts contexts = new Contexts();
        final int[] bytes = new int[MOST_BYTES];
        /** Stays 0 until the end, so that bytes which are not whole yet are never seen. */
        int byteCount;
        int range;
        int low;
        int waiting;
        int shifts;
        int bins;
        boolean writing;
        private int bitCount;
        private boolean hasGiven;

        void begin(Contexts starts) {
            contexts.become(starts);
            Arrays.fill(bytes, 0);
            byteCount = 0;
            range = FIRST_RANGE;
            low = 0;
            waiting = 0;
            shifts = 0;
            bins = 0;
            writing = true;
            bitCount = 0;
            hasGiven = false;
        }

        void decide(int context, int bin) {
            int r = contexts.unlikelyPart(context, range);
            range -= r;
            if (bin != contexts.likely[context]) {
                low += range;
                range = r;
            }
            contexts.learn(context, bin);
            shift();
            bins++;
        }

        void goBy(int bin) {
            low = 2 * low + bin * range;
            settleTopBit();
            bins++;
        }

        void writeNumber(int order, int number) {
            int left = number;
            int k = order;
            for (; k < LAST_POWER && left >= (1 << k); k++) {
                goBy(1);
                left -= 1 << k;
            }
            goBy(0);
            for (int i = k - 1; i >= 0; i--) {
                goBy((left >> i) & 1);
            }
        }

        void writeCount(int c, int binsOfCount, int count) {
            for (int i = 0; i < binsOfCount; i++) {
                decide(contextOfCount(c, i), i < count ? 1 : 0);
            }
        }

        void writeMark() {
            range -= 2;
            shift();
            bins++;
        }

        void end() {
            range -= 2;
            low += range;
            range = 2;
            shift();
            give(low / 512 % 2);
            write(low / 256 % 2);
            write(1);
            byteCount = (bitCount + 7) / 8;
            writing = false;
        }

        private void shift() {
            for (int i = 0; i < MOST_DOUBLINGS && range < LEAST_RANGE; i++) {
                range *= 2;
                low *= 2;
                settleTopBit();
            }
        }

        /** Low is doubled already here, so that a shift and a bin that goes by have the same bounds. */
        private void settleTopBit() {
            if (low >= 1024) {
                low -= 1024;
                give(1);
            } else if (low < 512) {
                give(0);
            } else {
                low -= 512;
                waiting++;
            }
            shifts++;
        }

        private void give(int bit) {
            if (hasGiven) {
                write(bit);
            }
            hasGiven = true;
            for (int i = 0; i < waiting; i++) {
                write(1 - bit);
            }
            waiting = 0;
        }

        private void write(int bit) {
            int i = bitCount / 8;
            if (i < MOST_BYTES) {
                bytes[i] |= bit << (7 - bitCount % 8);
                bitCount++;
            }
        }
    }

    /** Follows a writer through bytes of its own, so that those of the writer may change meanwhile. */
    private static final class Reader {
        final Contexts contexts = new Contexts();
        int range;
        int offset;
        boolean reading;
        private final int[] bytes = new int[MOST_BYTES];
        private int bitCount;
        private int bitsRead;

        boolean begin(Contexts starts, int[] from, int byteCount) {
            contexts.become(starts);
            System.arraycopy(from, 0, bytes, 0, byteCount);
            bitCount = 8 * byteCount;
            bitsRead = 0;
            range = FIRST_RANGE;
            offset = 0;
            for (int i = 0; i < 9; i++) {
                takeBit();
            }
            reading = offset < FIRST_RANGE;
            return reading;
        }

        int decide(int context) {
            int r = contexts.unlikelyPart(context, range);
            int bin = contexts.likely[context];
            range -= r;
            if (offset >= range) {
                offset -= range;
                range = r;
                bin = 1 - bin;
            }
            contexts.learn(context, bin);
            shift();
            return bin;
        }

        int goBy() {
            takeBit();
            if (offset < range) {
                return 0;
            }
            offset -= range;
            return 1;
        }

        int readNumber(int order) {
            int number = 0;
            int k = order;
            for (; k <= LAST_POWER && number <= LAST_NUMBER && goBy() == 1; k++) {
                number += 1 << k;
            }
            if (number > LAST_NUMBER) {
                return stopAtWrong();
            }
            int rest = 0;
            for (int i = 0; i < k; i++) {
                rest = 2 * rest + goBy();
            }
            number += rest;
            return number > LAST_NUMBER ? stopAtWrong() : number;
        }

        int readCount(int c, int most) {
            int count = 0;
            while (count < most && decide(contextOfCount(c, count)) == 1) {
                count++;
            }
            return count;
        }

        boolean meetsEnd() {
            range -= 2;
            if (offset >= range) {
                reading = false;
                return true;
            }
            shift();
            return false;
        }

        private int stopAtWrong() {
            reading = false;
            return WRONG;
        }

        private void shift() {
            for (int i = 0; i < MOST_DOUBLINGS && range < LEAST_RANGE; i++) {
                range *= 2;
                takeBit();
            }
        }

        private void takeBit() {
            offset = 2 * offset + nextBit();
        }

        private int nextBit() {
            if (bitsRead >= bitCount) {
                return 0;
            }
            int bit = (bytes[bitsRead / 8] >> (7 - bitsRead % 8)) & 1;
            bitsRead++;
            return bit;
        }
    }
}
