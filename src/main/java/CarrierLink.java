import java.util.Arrays;

/**
 * Sends up to twelve bytes as samples of a wave of many carriers, and finds them again.
 *
 * <p>All rows are made with the object and used again by every call, because the calls of a whole
 * run share one room.
 */
public final class CarrierLink {
    /** There is none. */
    public static final int NONE = -1;

    private static final int NO_START = -2;
    private static final int BAD_SIGNAL = -3;
    private static final int TOO_SHORT = -4;
    private static final int NO_SCRAMBLER = -5;

    private static final int MOST_BYTES = 12;
    private static final int MOST_IN_ONE_PUT = 8;
    private static final int HIGHEST_RATE = 3;
    private static final int HIGHEST_STATE = 127;
    private static final int MOST_LEAD = 40;
    private static final int LONGEST_ECHO = 3;
    private static final int MOST_TURNS = 3;
    private static final int MOST_STIR = 2000;

    // Twelve bytes: 36 * 4 bits with rate 3, 24 * 10 coded bits with rate 1, 19 symbols with rate 0.
    private static final int MOST_DATA_BITS = 144;
    private static final int MOST_CODED_BITS = 240;
    private static final int MOST_FRAME_SAMPLES = 480;

    private static final int CARRIERS = 16;
    private static final int DATA_CARRIERS = 12;
    private static final int MOST_BITS_IN_SYMBOL = 48;
    private static final int PREFIX = 4;
    private static final int SYMBOL_SAMPLES = PREFIX + CARRIERS;
    private static final int TRAINING_LEAD = 8;
    private static final int TRAINING_SAMPLES = TRAINING_LEAD + 2 * CARRIERS;

    private static final int SIGNAL_SYMBOLS = 3;
    private static final int SIGNAL_BITS = 18;
    private static final int SIGNAL_CODED_BITS = 36;
    private static final int SIGNAL_CHECKED_BITS = 7;
    private static final int SIGNAL_SAMPLES = TRAINING_SAMPLES + SIGNAL_SYMBOLS * SYMBOL_SAMPLES;

    private static final int SERVICE_BITS = 7;
    private static final int TAIL_BITS = 6;

    private static final int STATES = 64;
    private static final int UNLIKELY = -1000000;
    // Over a window of seven bits, the newest highest: x(k) is 64, x(k-6) is 1.
    private static final int TAPS_A = 91;
    private static final int TAPS_B = 121;

    private static final int MOST_SOFT = 2047;
    private static final long LEAST_POWER = 100000000L;

    private static final int[] BITS_ON_CARRIER = {1, 2, 2, 4};
    private static final int[] DATA_BITS_IN_SYMBOL = {6, 12, 18, 36};
    private static final int[] CARRIER_OF_DATA = {9, 10, 11, 13, 14, 15, 1, 2, 3, 5, 6, 7};
    private static final int[] TRAINING_SIGN = {0, 1, -1, 1, 1, -1, -1, 1, 0, 1, 1, -1, 1, -1, 1, 1};
    private static final int[] TURNED_ROUND = {0, 8, 4, 12, 2, 10, 6, 14, 1, 9, 5, 13, 3, 11, 7, 15};
    private static final int[] COSINE = {
        16384, 15137, 11585, 6270, 0, -6270, -11585, -15137,
        -16384, -15137, -11585, -6270, 0, 6270, 11585, 15137
    };
    // By b0 * 2 + b1, which is not the order of the levels.
    private static final int[] FOUR_LEVELS = {-972, -324, 972, 324};

    private final int[] waiting;
    private int waitingCount;
    private final Wave frame;
    private final Wave onAir;
    private final Sender sender;
    private final Receiver receiver;

    public CarrierLink() {
        waiting = new int[MOST_BYTES];
        waitingCount = 0;
        frame = new Wave(MOST_FRAME_SAMPLES);
        onAir = new Wave(MOST_LEAD + MOST_FRAME_SAMPLES);
        Points training = new Points();
        training.makeTraining();
        sender = new Sender(frame, training);
        receiver = new Receiver(training);
    }

    public boolean put(int n, long bytes) {
        if (n < 1 || n > MOST_IN_ONE_PUT || waitingCount + n > MOST_BYTES) {
            return false;
        }
        for (int k = n - 1; k >= 0; k--) {
            waiting[waitingCount] = (int) (bytes >> 8 * k) & 255;
            waitingCount++;
        }
        return true;
    }

    public void wipe() {
        waitingCount = 0;
    }

    public int send(int rate, int seed) throws IllegalArgumentException, IllegalStateException {
        if (rate < 0 || rate > HIGHEST_RATE || seed < 1 || seed > HIGHEST_STATE) {
            throw new IllegalArgumentException("rate or seed");
        }
        if (waitingCount == 0) {
            throw new IllegalStateException("no bytes");
        }
        sender.makeFrame(waiting, waitingCount, rate, seed);
        return frame.count;
    }

    public int bit(int stage, int k) {
        if (frame.count == 0) {
            return NONE;
        }
        BitRows data = sender.data;
        switch (stage) {
            case 0:
                return bitOrCount(data.plain, data.plainCount, k);
            case 1:
                return bitOrCount(data.coded, data.codedCount, k);
            case 2:
                return bitOrCount(data.placed, data.codedCount, k);
            default:
                return NONE;
        }
    }

    public short sample(boolean air, int k, boolean q) throws IndexOutOfBoundsException {
        Wave wave = air ? onAir : frame;
        if (!wave.has(k)) {
            throw new IndexOutOfBoundsException("no such sample");
        }
        return q ? wave.q[k] : wave.i[k];
    }

    public int air(int lead, int echo, int turns) throws IllegalArgumentException, IllegalStateException {
        if (lead < 0 || lead > MOST_LEAD || echo < 0 || echo > LONGEST_ECHO || turns < 0 || turns > MOST_TURNS) {
            throw new IllegalArgumentException("lead, echo or turns");
        }
        if (frame.count == 0) {
            throw new IllegalStateException("no frame");
        }
        onAir.clear();
        for (int k = 0; k < lead; k++) {
            onAir.append(0, 0);
        }
        for (int k = 0; k < frame.count; k++) {
            appendToAir(k, echo, turns);
        }
        return onAir.count;
    }

    public boolean disturb(int k, short i, short q) {
        if (!onAir.has(k)) {
            return false;
        }
        onAir.addTo(k, i, q);
        return true;
    }

    public boolean stir(int amount, int seed) {
        if (amount < 0 || amount > MOST_STIR || onAir.count == 0) {
            return false;
        }
        int x = seed;
        for (int k = 0; k < onAir.count; k++) {
            x = nextStir(x);
            int i = stirBy(x, amount);
            x = nextStir(x);
            onAir.addTo(k, i, stirBy(x, amount));
        }
        return true;
    }

    public boolean cut(int n) {
        if (n < 0 || onAir.count <= n) {
            return false;
        }
        onAir.count = n;
        return true;
    }

    public int receive() throws IllegalStateException {
        if (onAir.count == 0) {
            throw new IllegalStateException("nothing on the air");
        }
        return receiver.listen(onAir);
    }

    public int got(int k) {
        return k >= 0 && k < receiver.foundCount ? receiver.found[k] : NONE;
    }

    public int heard(int w) {
        return w >= 0 && w < Receiver.TOLD ? receiver.told[w] : NONE;
    }

    public int learned(int carrier, boolean imaginary) {
        if (carrier < 0 || carrier >= CARRIERS) {
            return 0;
        }
        return imaginary ? receiver.learned.imaginary[carrier] : receiver.learned.real[carrier];
    }

    private static int bitOrCount(int[] row, int count, int k) {
        if (k == -1) {
            return count;
        }
        return k >= 0 && k < count ? row[k] : NONE;
    }

    private void appendToAir(int k, int echo, int turns) {
        int i = frame.i[k];
        int q = frame.q[k];
        if (echo > 0 && k >= echo) {
            i += frame.i[k - echo] >> 1;
            q += frame.q[k - echo] >> 1;
        }
        for (int t = 0; t < turns; t++) {
            int before = i;
            i = -q;
            q = before;
        }
        onAir.append(i, q);
    }

    private static int nextStir(int x) {
        return x * 1103515245 + 12345;
    }

    private static int stirBy(int x, int amount) {
        return (x >>> 16) % (2 * amount + 1) - amount;
    }

    private static short saturate(int number) {
        return (short) Math.max(-32768, Math.min(32767, number));
    }

    private static boolean isThin(int rate) {
        return rate >= 2;
    }

    private static boolean keepsA(boolean thin, int k) {
        return !thin || k % 3 != 2;
    }

    private static boolean keepsB(boolean thin, int k) {
        return !thin || k % 3 != 1;
    }

    private static int codeOf(int window, int taps) {
        return Integer.bitCount(window & taps) & 1;
    }

    private static int symbolsFor(int rate, int byteCount) {
        int needed = SERVICE_BITS + 8 * byteCount + TAIL_BITS;
        int inSymbol = DATA_BITS_IN_SYMBOL[rate];
        return (needed + inSymbol - 1) / inSymbol;
    }

    /** The place of coded bit k of a symbol with m bits on a carrier. */
    private static int placeOf(int k, int m) {
        int n = DATA_CARRIERS * m;
        int s = m < 4 ? 1 : 2;
        int i = (n / 4) * (k % 4) + k / 4;
        return s * (i / s) + (i + n - 4 * i / n) % s;
    }

    /** Samples in a row. */
    private static final class Wave {
        final short[] i;
        final short[] q;
        int count;

        Wave(int room) {
            i = new short[room];
            q = new short[room];
            count = 0;
        }

        void clear() {
            count = 0;
        }

        boolean has(int k) {
            return k >= 0 && k < count;
        }

        void append(int newI, int newQ) {
            if (count < i.length) {
                i[count] = saturate(newI);
                q[count] = saturate(newQ);
                count++;
            }
        }

        void addTo(int k, int moreI, int moreQ) {
            i[k] = saturate(i[k] + moreI);
            q[k] = saturate(q[k] + moreQ);
        }
    }

    /** Sixteen points: those of the carriers, or those of the samples. */
    private static final class Points {
        final int[] real;
        final int[] imaginary;

        Points() {
            real = new int[CARRIERS];
            imaginary = new int[CARRIERS];
        }

        void clear() {
            Arrays.fill(real, 0);
            Arrays.fill(imaginary, 0);
        }

        void makeTraining() {
            for (int c = 0; c < CARRIERS; c++) {
                real[c] = 1024 * TRAINING_SIGN[c];
                imaginary[c] = 0;
            }
            transform(1);
        }

        /** The caller has seen that the wave has sixteen samples from there. */
        void takeCarriers(Wave wave, int from) {
            for (int k = 0; k < CARRIERS; k++) {
                real[k] = wave.i[from + k];
                imaginary[k] = wave.q[from + k];
            }
            transform(-1);
        }

        void transform(int sign) {
            turnRound();
            for (int length = 2; length <= CARRIERS; length *= 2) {
                int step = CARRIERS / length;
                int shift = length == 2 || length == 8 ? 1 : 0;
                for (int j = 0; j < length / 2; j++) {
                    long c = COSINE[j * step];
                    long d = sign * COSINE[(j * step + 12) % CARRIERS];
                    for (int low = j; low < CARRIERS; low += length) {
                        join(low, low + length / 2, c, d, shift);
                    }
                }
            }
        }

        private void join(int low, int high, long c, long d, int shift) {
            int tReal = (int) ((real[high] * c - imaginary[high] * d + 8192) >> 14);
            int tImaginary = (int) ((imaginary[high] * c + real[high] * d + 8192) >> 14);
            int uReal = real[low];
            int uImaginary = imaginary[low];
            real[low] = (uReal + tReal) >> shift;
            imaginary[low] = (uImaginary + tImaginary) >> shift;
            real[high] = (uReal - tReal) >> shift;
            imaginary[high] = (uImaginary - tImaginary) >> shift;
        }

        private void turnRound() {
            for (int k = 0; k < CARRIERS; k++) {
                int other = TURNED_ROUND[k];
                // Each pair is met twice, and must be exchanged once.
                if (k < other) {
                    int keptReal = real[k];
                    int keptImaginary = imaginary[k];
                    real[k] = real[other];
                    imaginary[k] = imaginary[other];
                    real[other] = keptReal;
                    imaginary[other] = keptImaginary;
                }
            }
        }
    }

    /** A row of bits that looks random, of a state of seven bits. */
    private static final class Scrambler {
        private int state;

        Scrambler() {
            state = HIGHEST_STATE;
        }

        void begin(int first) {
            state = first;
        }

        int next() {
            int f = (state >> 6 ^ state >> 3) & 1;
            state = (state << 1 | f) & 127;
            return f;
        }
    }

    /** Bits, what the coder makes of them, and these at the places that interleaving gives them. */
    private static final class BitRows {
        final int[] plain;
        final int[] coded;
        final int[] placed;
        int plainCount;
        int codedCount;

        BitRows(int mostPlain, int mostCoded) {
            plain = new int[mostPlain];
            coded = new int[mostCoded];
            placed = new int[mostCoded];
            plainCount = 0;
            codedCount = 0;
        }

        void clear() {
            plainCount = 0;
            codedCount = 0;
        }

        void append(int newBit) {
            if (plainCount < plain.length) {
                plain[plainCount] = newBit;
                plainCount++;
            }
        }

        void appendLowestFirst(int number, int bits) {
            for (int k = 0; k < bits; k++) {
                append(number >> k & 1);
            }
        }

        void appendZeros(int bits) {
            appendLowestFirst(0, bits);
        }

        void encode(int rate) {
            code(isThin(rate));
            interleave(BITS_ON_CARRIER[rate]);
        }

        private void code(boolean thin) {
            int window = 0;
            for (int k = 0; k < plainCount; k++) {
                window = window >> 1 | plain[k] << 6;
                if (keepsA(thin, k)) {
                    appendCoded(codeOf(window, TAPS_A));
                }
                if (keepsB(thin, k)) {
                    appendCoded(codeOf(window, TAPS_B));
                }
            }
        }

        private void appendCoded(int newBit) {
            if (codedCount < coded.length) {
                coded[codedCount] = newBit;
                codedCount++;
            }
        }

        private void interleave(int m) {
            int n = DATA_CARRIERS * m;
            for (int from = 0; from + n <= codedCount; from += n) {
                for (int k = 0; k < n; k++) {
                    placed[from + placeOf(k, m)] = coded[from + k];
                }
            }
        }
    }

    /** Makes a frame of bytes. */
    private static final class Sender {
        final BitRows data;
        private final BitRows signal;
        private final Wave frame;
        private final Points training;
        private final Points points;
        private final Scrambler scrambler;
        private final Scrambler pilots;

        Sender(Wave frame, Points training) {
            data = new BitRows(MOST_DATA_BITS, MOST_CODED_BITS);
            signal = new BitRows(SIGNAL_BITS, SIGNAL_CODED_BITS);
            this.frame = frame;
            this.training = training;
            points = new Points();
            scrambler = new Scrambler();
            pilots = new Scrambler();
        }

        void makeFrame(int[] bytes, int byteCount, int rate, int seed) {
            frame.clear();
            pilots.begin(HIGHEST_STATE);
            appendTraining();
            writeSignal(rate, byteCount);
            appendSymbols(signal, 0);
            writeData(bytes, byteCount, rate, seed);
            appendSymbols(data, rate);
        }

        private void appendTraining() {
            appendPoints(training, CARRIERS - TRAINING_LEAD);
            appendPoints(training, 0);
            appendPoints(training, 0);
        }

        private void appendPoints(Points from, int first) {
            for (int k = first; k < CARRIERS; k++) {
                frame.append(from.real[k], from.imaginary[k]);
            }
        }

        private void writeSignal(int rate, int byteCount) {
            signal.clear();
            signal.appendLowestFirst(rate, 2);
            signal.appendLowestFirst(byteCount, 4);
            signal.append((Integer.bitCount(rate) + Integer.bitCount(byteCount)) & 1);
            signal.appendZeros(SIGNAL_BITS - SIGNAL_CHECKED_BITS);
            signal.encode(0);
        }

        private void writeData(int[] bytes, int byteCount, int rate, int seed) {
            data.clear();
            data.appendZeros(SERVICE_BITS);
            for (int k = 0; k < byteCount; k++) {
                data.appendLowestFirst(bytes[k], 8);
            }
            int tail = data.plainCount;
            data.appendZeros(symbolsFor(rate, byteCount) * DATA_BITS_IN_SYMBOL[rate] - tail);
            scrambleData(seed, tail);
            data.encode(rate);
        }

        /** The tail stays 0, so that the coder comes back to its first state behind the bytes. */
        private void scrambleData(int seed, int tail) {
            scrambler.begin(seed);
            for (int k = 0; k < data.plainCount; k++) {
                int mask = scrambler.next();
                boolean inTail = k >= tail && k < tail + TAIL_BITS;
                data.plain[k] = inTail ? 0 : data.plain[k] ^ mask;
            }
        }

        private void appendSymbols(BitRows rows, int rate) {
            int m = BITS_ON_CARRIER[rate];
            int n = DATA_CARRIERS * m;
            for (int from = 0; from + n <= rows.codedCount; from += n) {
                points.clear();
                for (int j = 0; j < DATA_CARRIERS; j++) {
                    mapCarrier(CARRIER_OF_DATA[j], rows.placed, from + m * j, m);
                }
                setPilots();
                points.transform(1);
                appendPoints(points, CARRIERS - PREFIX);
                appendPoints(points, 0);
            }
        }

        private void mapCarrier(int carrier, int[] bits, int from, int m) {
            if (m == 1) {
                points.real[carrier] = bits[from] == 1 ? 1024 : -1024;
            } else if (m == 2) {
                points.real[carrier] = bits[from] == 1 ? 724 : -724;
                points.imaginary[carrier] = bits[from + 1] == 1 ? 724 : -724;
            } else {
                points.real[carrier] = FOUR_LEVELS[bits[from] * 2 + bits[from + 1]];
                points.imaginary[carrier] = FOUR_LEVELS[bits[from + 2] * 2 + bits[from + 3]];
            }
        }

        private void setPilots() {
            int p = pilots.next() == 1 ? -1024 : 1024;
            points.real[4] = p;
            points.real[12] = -p;
        }
    }

    /** Finds a frame's bytes in a wave, and keeps what it learned on the way. */
    private static final class Receiver {
        private static final int TOLD = 6;
        private static final int ANSWER = 0;
        private static final int START = 1;
        private static final int RATE = 2;
        private static final int LENGTH = 3;
        private static final int STATE = 4;
        private static final int METRIC = 5;

        private static final int LAST_START = 40;

        final int[] told;
        final int[] found;
        int foundCount;
        final Points learned;
        private final Points training;
        private final Points points;
        private final int[] symbolSoft;
        private final int[] soft;
        private final Paths paths;
        private final Scrambler scrambler;

        Receiver(Points training) {
            told = new int[TOLD];
            Arrays.fill(told, NONE);
            found = new int[MOST_BYTES];
            foundCount = 0;
            learned = new Points();
            this.training = training;
            points = new Points();
            symbolSoft = new int[MOST_BITS_IN_SYMBOL];
            soft = new int[MOST_CODED_BITS];
            paths = new Paths();
            scrambler = new Scrambler();
        }

        int listen(Wave wave) {
            Arrays.fill(told, NONE);
            foundCount = 0;
            learned.clear();
            told[ANSWER] = findBytes(wave);
            return told[ANSWER];
        }

        private int findBytes(Wave wave) {
            int start = findStart(wave);
            if (start == NONE) {
                return NO_START;
            }
            told[START] = start;
            learnCarriers(wave, start);
            takeSymbols(wave, start + TRAINING_SAMPLES, SIGNAL_SYMBOLS, 1);
            paths.decode(soft, SIGNAL_BITS, false);
            if (!isSignal(paths.bits)) {
                return BAD_SIGNAL;
            }
            int rate = numberAt(paths.bits, 0, 2);
            int length = numberAt(paths.bits, 2, 4);
            told[RATE] = rate;
            told[LENGTH] = length;
            int symbols = symbolsFor(rate, length);
            if (start + SIGNAL_SAMPLES + symbols * SYMBOL_SAMPLES > wave.count) {
                return TOO_SHORT;
            }
            takeSymbols(wave, start + SIGNAL_SAMPLES, symbols, BITS_ON_CARRIER[rate]);
            told[METRIC] = paths.decode(soft, symbols * DATA_BITS_IN_SYMBOL[rate], isThin(rate));
            return takeBytes(length);
        }

        private int findStart(Wave wave) {
            int best = NONE;
            // One less than is asked for, so that the first one that is loud enough beats it.
            long greatest = LEAST_POWER - 1;
            for (int d = 0; d <= LAST_START && d + SIGNAL_SAMPLES <= wave.count; d++) {
                long power = powerAt(wave, d + TRAINING_LEAD);
                if (power > greatest) {
                    greatest = power;
                    best = d;
                }
            }
            return best;
        }

        private long powerAt(Wave wave, int from) {
            long r = 0;
            long j = 0;
            for (int k = 0; k < 2 * CARRIERS; k++) {
                long i = wave.i[from + k];
                long q = wave.q[from + k];
                int tReal = training.real[k % CARRIERS];
                int tImaginary = training.imaginary[k % CARRIERS];
                r += i * tReal + q * tImaginary;
                j += q * tReal - i * tImaginary;
            }
            return (r >> 8) * (r >> 8) + (j >> 8) * (j >> 8);
        }

        private void learnCarriers(Wave wave, int start) {
            for (int row = 0; row < 2; row++) {
                points.takeCarriers(wave, start + TRAINING_LEAD + row * CARRIERS);
                for (int c = 0; c < CARRIERS; c++) {
                    learned.real[c] += TRAINING_SIGN[c] * points.real[c];
                    learned.imaginary[c] += TRAINING_SIGN[c] * points.imaginary[c];
                }
            }
        }

        /** Puts the soft values of the symbols in the order in which the coder made their bits. */
        private void takeSymbols(Wave wave, int from, int symbols, int m) {
            int n = DATA_CARRIERS * m;
            for (int s = 0; s < symbols && (s + 1) * n <= soft.length; s++) {
                points.takeCarriers(wave, from + s * SYMBOL_SAMPLES + PREFIX);
                for (int j = 0; j < DATA_CARRIERS; j++) {
                    takeCarrier(CARRIER_OF_DATA[j], m * j, m);
                }
                for (int k = 0; k < n; k++) {
                    soft[s * n + k] = symbolSoft[placeOf(k, m)];
                }
            }
        }

        private void takeCarrier(int carrier, int place, int m) {
            long hReal = learned.real[carrier];
            long hImaginary = learned.imaginary[carrier];
            long yReal = points.real[carrier];
            long yImaginary = points.imaginary[carrier];
            long zReal = yReal * hReal + yImaginary * hImaginary;
            long zImaginary = yImaginary * hReal - yReal * hImaginary;
            symbolSoft[place] = softOf(zReal);
            if (m == 2) {
                symbolSoft[place + 1] = softOf(zImaginary);
            } else if (m == 4) {
                long e = (hReal * hReal + hImaginary * hImaginary) * 648 >> 11;
                symbolSoft[place + 1] = softOf(e - Math.abs(zReal));
                symbolSoft[place + 2] = softOf(zImaginary);
                symbolSoft[place + 3] = softOf(e - Math.abs(zImaginary));
            }
        }

        private static int softOf(long value) {
            return (int) Math.max(-MOST_SOFT, Math.min(MOST_SOFT, value >> 10));
        }

        private static boolean isSignal(int[] bits) {
            int ones = 0;
            for (int k = 0; k < SIGNAL_CHECKED_BITS; k++) {
                ones += bits[k];
            }
            for (int k = SIGNAL_CHECKED_BITS; k < SIGNAL_BITS; k++) {
                if (bits[k] != 0) {
                    return false;
                }
            }
            int length = numberAt(bits, 2, 4);
            return ones % 2 == 0 && length >= 1 && length <= MOST_BYTES;
        }

        private static int numberAt(int[] bits, int from, int count) {
            int number = 0;
            for (int k = 0; k < count; k++) {
                number |= bits[from + k] << k;
            }
            return number;
        }

        private int takeBytes(int length) {
            int state = 0;
            for (int k = 0; k < SERVICE_BITS; k++) {
                state = state << 1 | paths.bits[k];
            }
            told[STATE] = state;
            if (state == 0) {
                return NO_SCRAMBLER;
            }
            scrambler.begin(state);
            for (int b = 0; b < length; b++) {
                found[b] = numberAt(paths.bits, SERVICE_BITS + 8 * b, 8) ^ scrambledByte();
            }
            foundCount = length;
            return length;
        }

        private int scrambledByte() {
            int mask = 0;
            for (int k = 0; k < 8; k++) {
                mask |= scrambler.next() << k;
            }
            return mask;
        }
    }

    /** Finds the likeliest bits of soft values. */
    private static final class Paths {
        final int[] bits;
        // Of each step bit n tells whether state n was come to with j = 1.
        private final long[] choices;
        private final int[] outputs;
        private final int[] gains;
        private int[] metrics;
        private int[] newMetrics;

        Paths() {
            bits = new int[MOST_DATA_BITS];
            choices = new long[MOST_DATA_BITS];
            outputs = new int[2 * STATES];
            for (int window = 0; window < 2 * STATES; window++) {
                outputs[window] = codeOf(window, TAPS_A) * 2 + codeOf(window, TAPS_B);
            }
            gains = new int[4];
            metrics = new int[STATES];
            newMetrics = new int[STATES];
        }

        /** Leaves the decoded bits in bits; the greatest metric at the end. */
        int decode(int[] soft, int count, boolean thin) {
            int steps = Math.min(count, MOST_DATA_BITS);
            Arrays.fill(metrics, UNLIKELY);
            metrics[0] = 0;
            int next = 0;
            for (int k = 0; k < steps; k++) {
                int a = 0;
                int b = 0;
                if (keepsA(thin, k) && next < soft.length) {
                    a = soft[next];
                    next++;
                }
                if (keepsB(thin, k) && next < soft.length) {
                    b = soft[next];
                    next++;
                }
                step(k, a, b);
            }
            int last = firstGreatest();
            goBack(last, steps);
            return metrics[last];
        }

        private void step(int k, int a, int b) {
            gains[0] = -a - b;
            gains[1] = b - a;
            gains[2] = a - b;
            gains[3] = a + b;
            long chosen = 0;
            for (int n = 0; n < STATES; n++) {
                int from = (n & 31) * 2;
                // n * 2 + j is the window of the seven bits x(k) .. x(k-6).
                int metric = metrics[from] + gains[outputs[n * 2]];
                int other = metrics[from + 1] + gains[outputs[n * 2 + 1]];
                if (other > metric) {
                    metric = other;
                    chosen |= 1L << n;
                }
                newMetrics[n] = metric;
            }
            choices[k] = chosen;
            int[] old = metrics;
            metrics = newMetrics;
            newMetrics = old;
        }

        private int firstGreatest() {
            int best = 0;
            for (int n = 1; n < STATES; n++) {
                if (metrics[n] > metrics[best]) {
                    best = n;
                }
            }
            return best;
        }

        private void goBack(int last, int steps) {
            int n = last;
            for (int k = steps - 1; k >= 0; k--) {
                bits[k] = n >> 5;
                n = (n & 31) * 2 + (int) (choices[k] >> n & 1);
            }
        }
    }
}
