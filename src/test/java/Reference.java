import java.util.ArrayList;
import java.util.List;

/**
 * A second writing of the document, for tests to compare with: slow, with new lists everywhere and
 * with whole histories instead of ways back, so that it shares no shortcut with the program.
 */
final class Reference {
    static final int[] M = {1, 2, 2, 4};
    static final int[] D = {6, 12, 18, 36};
    static final int[] DATA_CARRIERS = {9, 10, 11, 13, 14, 15, 1, 2, 3, 5, 6, 7};
    static final int[] USED = {1, 2, 3, 4, 5, 6, 7, 9, 10, 11, 12, 13, 14, 15};
    static final int[] E = {1, -1, 1, 1, -1, -1, 1, 1, 1, -1, 1, -1, 1, 1};
    static final int[] C = {
        16384, 15137, 11585, 6270, 0, -6270, -11585, -15137,
        -16384, -15137, -11585, -6270, 0, 6270, 11585, 15137
    };

    private final List<Integer> bytes = new ArrayList<>();
    private final List<List<Integer>> stages = new ArrayList<>();
    private List<int[]> frame = new ArrayList<>();
    private List<int[]> onAir = new ArrayList<>();
    private List<Integer> found = new ArrayList<>();
    private Integer answer = null;
    private Integer start = null;
    private Integer rate = null;
    private Integer length = null;
    private Integer state = null;
    private Integer metric = null;
    private int[][] h = new int[16][2];

    boolean put(int n, long number) {
        if (n < 1 || n > 8 || bytes.size() + n > 12) {
            return false;
        }
        String hex = String.format("%016x", number).substring(16 - 2 * n);
        for (int k = 0; k < n; k++) {
            bytes.add(Integer.parseInt(hex.substring(2 * k, 2 * k + 2), 16));
        }
        return true;
    }

    void wipe() {
        bytes.clear();
    }

    int send(int newRate, int seed) {
        if (newRate < 0 || newRate > 3 || seed < 1 || seed > 127) {
            throw new IllegalArgumentException();
        }
        if (bytes.isEmpty()) {
            throw new IllegalStateException();
        }
        List<Integer> data = dataOf(bytes, newRate, seed);
        stages.clear();
        stages.add(data);
        stages.add(coded(data, newRate >= 2));
        stages.add(interleaved(stages.get(1), M[newRate]));
        frame = frameOf(signalOf(newRate, bytes.size()), data, newRate);
        return frame.size();
    }

    int bit(int stage, int k) {
        if (stage < 0 || stage >= stages.size()) {
            return -1;
        }
        List<Integer> bits = stages.get(stage);
        if (k == -1) {
            return bits.size();
        }
        return k >= 0 && k < bits.size() ? bits.get(k) : -1;
    }

    short sample(boolean air, int k, boolean q) {
        return (short) (air ? onAir : frame).get(k)[q ? 1 : 0];
    }

    int air(int lead, int echo, int turns) {
        if (lead < 0 || lead > 40 || echo < 0 || echo > 3 || turns < 0 || turns > 3) {
            throw new IllegalArgumentException();
        }
        if (frame.isEmpty()) {
            throw new IllegalStateException();
        }
        onAir = new ArrayList<>();
        for (int k = 0; k < lead; k++) {
            onAir.add(new int[] {0, 0});
        }
        for (int k = 0; k < frame.size(); k++) {
            int[] before = echo == 0 || k - echo < 0 ? new int[] {0, 0} : frame.get(k - echo);
            int i = frame.get(k)[0] + (before[0] >> 1);
            int q = frame.get(k)[1] + (before[1] >> 1);
            int[][] turned = {{i, q}, {-q, i}, {-i, -q}, {q, -i}};
            onAir.add(new int[] {saturated(turned[turns][0]), saturated(turned[turns][1])});
        }
        return onAir.size();
    }

    boolean disturb(int k, short i, short q) {
        if (k < 0 || k >= onAir.size()) {
            return false;
        }
        onAir.set(k, new int[] {saturated(onAir.get(k)[0] + i), saturated(onAir.get(k)[1] + q)});
        return true;
    }

    boolean stir(int amount, int seed) {
        if (amount < 0 || amount > 2000 || onAir.isEmpty()) {
            return false;
        }
        int x = seed;
        for (int[] pair : onAir) {
            for (int part = 0; part < 2; part++) {
                x = x * 1103515245 + 12345;
                pair[part] = saturated(pair[part] + (x >>> 16) % (2 * amount + 1) - amount);
            }
        }
        return true;
    }

    boolean cut(int n) {
        if (n < 0 || onAir.size() <= n) {
            return false;
        }
        onAir = new ArrayList<>(onAir.subList(0, n));
        return true;
    }

    int receive() {
        if (onAir.isEmpty()) {
            throw new IllegalStateException();
        }
        found = new ArrayList<>();
        start = null;
        rate = null;
        length = null;
        state = null;
        metric = null;
        h = new int[16][2];
        answer = answerOfReceiving();
        return answer;
    }

    /** What is received if the air holds these samples. */
    static Reference receivedFrom(List<int[]> wave) {
        Reference it = new Reference();
        it.onAir = wave;
        it.receive();
        return it;
    }

    int got(int k) {
        return k >= 0 && k < found.size() ? found.get(k) : -1;
    }

    int heard(int w) {
        Integer[] all = {answer, start, rate, length, state, metric};
        return w < 0 || w > 5 || all[w] == null ? -1 : all[w];
    }

    int learned(int carrier, boolean imaginary) {
        return carrier < 0 || carrier > 15 ? 0 : h[carrier][imaginary ? 1 : 0];
    }

    static int saturated(int number) {
        return number < -32768 ? -32768 : number > 32767 ? 32767 : number;
    }

    static List<Integer> scramblerBits(int first, int count) {
        List<Integer> bits = new ArrayList<>();
        int r = first;
        for (int k = 0; k < count; k++) {
            int f = (r >> 6 ^ r >> 3) & 1;
            r = (r << 1 | f) & 127;
            bits.add(f);
        }
        return bits;
    }

    static int symbols(int rate, int count) {
        int symbols = 0;
        while (symbols * D[rate] < 7 + 8 * count + 6) {
            symbols++;
        }
        return symbols;
    }

    /** A seed of 0, which send refuses, gives data that no scrambler has touched. */
    static List<Integer> dataOf(List<Integer> bytes, int rate, int seed) {
        int size = symbols(rate, bytes.size()) * D[rate];
        List<Integer> mask = scramblerBits(seed, size);
        List<Integer> data = new ArrayList<>();
        for (int k = 0; k < size; k++) {
            int place = k - 7;
            int x = place >= 0 && place < 8 * bytes.size() ? bytes.get(place / 8) >> place % 8 & 1 : 0;
            boolean tail = place >= 8 * bytes.size() && place < 8 * bytes.size() + 6;
            data.add(tail ? 0 : x ^ mask.get(k));
        }
        return data;
    }

    static List<Integer> signalOf(int rate, int count) {
        List<Integer> bits = new ArrayList<>();
        int sum = 0;
        for (int k = 0; k < 6; k++) {
            int x = k < 2 ? rate >> k & 1 : count >> (k - 2) & 1;
            bits.add(x);
            sum += x;
        }
        bits.add(sum % 2);
        for (int k = 0; k < 11; k++) {
            bits.add(0);
        }
        return bits;
    }

    private static int before(List<Integer> x, int k) {
        return k < 0 ? 0 : x.get(k);
    }

    static int codeA(List<Integer> x, int k) {
        return before(x, k) ^ before(x, k - 2) ^ before(x, k - 3) ^ before(x, k - 5) ^ before(x, k - 6);
    }

    static int codeB(List<Integer> x, int k) {
        return before(x, k) ^ before(x, k - 1) ^ before(x, k - 2) ^ before(x, k - 3) ^ before(x, k - 6);
    }

    static List<Integer> coded(List<Integer> x, boolean thin) {
        List<Integer> coded = new ArrayList<>();
        for (int k = 0; k < x.size(); k++) {
            if (!(thin && k % 3 == 2)) {
                coded.add(codeA(x, k));
            }
            if (!(thin && k % 3 == 1)) {
                coded.add(codeB(x, k));
            }
        }
        return coded;
    }

    static int place(int k, int m) {
        int n = 12 * m;
        int s = m < 4 ? 1 : 2;
        int i = (n / 4) * (k % 4) + k / 4;
        return s * (i / s) + (i + n - 4 * i / n) % s;
    }

    static List<Integer> interleaved(List<Integer> coded, int m) {
        int n = 12 * m;
        Integer[] placed = new Integer[coded.size()];
        for (int k = 0; k < coded.size(); k++) {
            placed[k / n * n + place(k % n, m)] = coded.get(k);
        }
        return List.of(placed);
    }

    static int level(int b0, int b1) {
        return (b1 == 1 ? 324 : 972) * (b0 == 1 ? 1 : -1);
    }

    static long[][] pointsOf(List<Integer> placed, int m, int pilot) {
        long[][] p = new long[16][2];
        for (int j = 0; j < 12; j++) {
            List<Integer> b = placed.subList(m * j, m * j + m);
            long[] point = p[DATA_CARRIERS[j]];
            if (m == 1) {
                point[0] = b.get(0) * 2048 - 1024;
            } else if (m == 2) {
                point[0] = b.get(0) * 1448 - 724;
                point[1] = b.get(1) * 1448 - 724;
            } else {
                point[0] = level(b.get(0), b.get(1));
                point[1] = level(b.get(2), b.get(3));
            }
        }
        p[4][0] = pilot;
        p[12][0] = -pilot;
        return p;
    }

    static long[][] training() {
        long[][] p = new long[16][2];
        for (int k = 0; k < 14; k++) {
            p[USED[k]][0] = 1024 * E[k];
        }
        return transform(p, 1);
    }

    static long[][] transform(long[][] from, int g) {
        long[][] p = new long[16][];
        for (int k = 0; k < 16; k++) {
            p[k] = from[Integer.reverse(k) >>> 28].clone();
        }
        for (int len = 2; len <= 16; len *= 2) {
            for (int b = 0; b < 16; b += len) {
                for (int j = 0; j < len / 2; j++) {
                    long[] u = p[b + j];
                    long[] v = p[b + j + len / 2];
                    long c = C[j * 16 / len];
                    long d = g * C[(j * 16 / len + 12) % 16];
                    long re = (v[0] * c - v[1] * d + 8192) >> 14;
                    long im = (v[1] * c + v[0] * d + 8192) >> 14;
                    int by = len == 2 || len == 8 ? 1 : 0;
                    p[b + j] = new long[] {(u[0] + re) >> by, (u[1] + im) >> by};
                    p[b + j + len / 2] = new long[] {(u[0] - re) >> by, (u[1] - im) >> by};
                }
            }
        }
        return p;
    }

    private static void addSamples(List<int[]> to, long[][] points, int from) {
        for (int k = from; k < 16; k++) {
            to.add(new int[] {saturated((int) points[k][0]), saturated((int) points[k][1])});
        }
    }

    /** A frame of any bits, those too that send never makes. */
    static List<int[]> frameOf(List<Integer> signal, List<Integer> data, int rate) {
        return frameOfCoded(signal, coded(data, rate >= 2), rate);
    }

    /** A frame of coded bits, those too that no coder makes. */
    static List<int[]> frameOfCoded(List<Integer> signal, List<Integer> codedData, int rate) {
        List<int[]> frame = new ArrayList<>();
        addSamples(frame, training(), 8);
        addSamples(frame, training(), 0);
        addSamples(frame, training(), 0);
        addSymbols(frame, interleaved(coded(signal, false), 1), 1, 0);
        addSymbols(frame, interleaved(codedData, M[rate]), M[rate], 3);
        return frame;
    }

    private static void addSymbols(List<int[]> frame, List<Integer> placed, int m, int firstNumber) {
        int n = 12 * m;
        for (int s = 0; s < placed.size() / n; s++) {
            int pilotBit = scramblerBits(127, firstNumber + s + 1).get(firstNumber + s);
            int pilot = pilotBit == 1 ? -1024 : 1024;
            long[][] points = transform(pointsOf(placed.subList(s * n, s * n + n), m, pilot), 1);
            addSamples(frame, points, 12);
            addSamples(frame, points, 0);
        }
    }

    private long[][] carriersAt(int from) {
        long[][] p = new long[16][2];
        for (int k = 0; k < 16; k++) {
            p[k][0] = onAir.get(from + k)[0];
            p[k][1] = onAir.get(from + k)[1];
        }
        return transform(p, -1);
    }

    private long powerAt(int d) {
        long[][] t = training();
        long r = 0;
        long j = 0;
        for (int k = 0; k < 32; k++) {
            int[] s = onAir.get(d + 8 + k);
            r += s[0] * t[k % 16][0] + s[1] * t[k % 16][1];
            j += s[1] * t[k % 16][0] - s[0] * t[k % 16][1];
        }
        return (r >> 8) * (r >> 8) + (j >> 8) * (j >> 8);
    }

    private Integer startOrNull() {
        Integer best = null;
        long greatest = -1;
        for (int d = 0; d <= 40 && d + 100 <= onAir.size(); d++) {
            long power = powerAt(d);
            if (power > greatest) {
                greatest = power;
                best = d;
            }
        }
        return greatest < 100000000L ? null : best;
    }

    private int answerOfReceiving() {
        start = startOrNull();
        if (start == null) {
            return -2;
        }
        long[][] one = carriersAt(start + 8);
        long[][] two = carriersAt(start + 24);
        for (int k = 0; k < 14; k++) {
            for (int part = 0; part < 2; part++) {
                h[USED[k]][part] = (int) (E[k] * (one[USED[k]][part] + two[USED[k]][part]));
            }
        }
        List<Integer> signal = new ArrayList<>();
        decode(softOf(start + 40, 3, 1, false), signal);
        int signalRate = signal.get(0) + 2 * signal.get(1);
        int count = signal.get(2) + 2 * signal.get(3) + 4 * signal.get(4) + 8 * signal.get(5);
        if (count < 1 || count > 12 || !signal.equals(signalOf(signalRate, count))) {
            return -3;
        }
        rate = signalRate;
        length = count;
        int symbols = symbols(rate, length);
        if (onAir.size() < start + 100 + 20 * symbols) {
            return -4;
        }
        List<Integer> data = new ArrayList<>();
        metric = decode(softOf(start + 100, symbols, M[rate], rate >= 2), data);
        state = 0;
        for (int k = 0; k < 7; k++) {
            state = state * 2 + data.get(k);
        }
        if (state == 0) {
            return -5;
        }
        List<Integer> mask = scramblerBits(state, 8 * length);
        for (int b = 0; b < length; b++) {
            int value = 0;
            for (int k = 0; k < 8; k++) {
                value += (data.get(7 + 8 * b + k) ^ mask.get(8 * b + k)) << k;
            }
            found.add(value);
        }
        return length;
    }

    /** Pairs a, b for each k, with 0 where a bit was left out. */
    private List<int[]> softOf(int from, int symbols, int m, boolean thin) {
        List<Integer> inOrder = new ArrayList<>();
        for (int s = 0; s < symbols; s++) {
            long[][] y = carriersAt(from + 20 * s + 4);
            List<Integer> placed = new ArrayList<>();
            for (int carrier : DATA_CARRIERS) {
                placed.addAll(softOfCarrier(y[carrier], h[carrier], m));
            }
            for (int k = 0; k < 12 * m; k++) {
                inOrder.add(placed.get(place(k, m)));
            }
        }
        List<int[]> pairs = new ArrayList<>();
        int next = 0;
        while (next < inOrder.size()) {
            int k = pairs.size();
            int a = thin && k % 3 == 2 ? 0 : inOrder.get(next++);
            int b = thin && k % 3 == 1 ? 0 : inOrder.get(next++);
            pairs.add(new int[] {a, b});
        }
        return pairs;
    }

    private static List<Integer> softOfCarrier(long[] y, int[] h, int m) {
        long re = y[0] * h[0] + y[1] * h[1];
        long im = y[1] * h[0] - y[0] * h[1];
        long w = (long) h[0] * h[0] + (long) h[1] * h[1];
        long e = w * 648 >> 11;
        long[] all = m == 1 ? new long[] {re}
            : m == 2 ? new long[] {re, im}
            : new long[] {re, e - Math.abs(re), im, e - Math.abs(im)};
        List<Integer> soft = new ArrayList<>();
        for (long value : all) {
            long less = value >> 10;
            soft.add(less < -2047 ? -2047 : less > 2047 ? 2047 : (int) less);
        }
        return soft;
    }

    /** Every state keeps all its bits; bit k of the coder is asked of the whole history. */
    private static int decode(List<int[]> pairs, List<Integer> bits) {
        int[] metrics = new int[64];
        List<List<Integer>> ways = new ArrayList<>();
        for (int s = 0; s < 64; s++) {
            metrics[s] = s == 0 ? 0 : -1000000;
            List<Integer> six = new ArrayList<>();
            for (int k = 0; k < 6; k++) {
                six.add(s >> k & 1);
            }
            ways.add(six);
        }
        for (int[] pair : pairs) {
            int[] newMetrics = new int[64];
            List<List<Integer>> newWays = new ArrayList<>();
            for (int n = 0; n < 64; n++) {
                int best = 0;
                int bestFrom = -1;
                for (int j = 0; j < 2; j++) {
                    int s = (n & 31) * 2 + j;
                    List<Integer> seven = new ArrayList<>();
                    for (int k = 0; k < 6; k++) {
                        seven.add(s >> k & 1);
                    }
                    seven.add(n >> 5);
                    int value = metrics[s];
                    value += codeA(seven, 6) == 1 ? pair[0] : -pair[0];
                    value += codeB(seven, 6) == 1 ? pair[1] : -pair[1];
                    if (bestFrom < 0 || value > best) {
                        best = value;
                        bestFrom = s;
                    }
                }
                newMetrics[n] = best;
                List<Integer> way = new ArrayList<>(ways.get(bestFrom));
                way.add(n >> 5);
                newWays.add(way);
            }
            metrics = newMetrics;
            ways = newWays;
        }
        int last = 0;
        for (int n = 1; n < 64; n++) {
            if (metrics[n] > metrics[last]) {
                last = n;
            }
        }
        bits.addAll(ways.get(last).subList(6, 6 + pairs.size()));
        return metrics[last];
    }
}
