import java.util.ArrayList;
import java.util.List;

/** Each promise on its own: ordinary inputs, the edges that the document names, wrong inputs. */
public final class PromisesTest {
    private static final Class<IllegalArgumentException> ARGUMENT = IllegalArgumentException.class;
    private static final Class<IllegalStateException> STATE = IllegalStateException.class;
    private static final Class<IndexOutOfBoundsException> INDEX = IndexOutOfBoundsException.class;
    private static final int LOWEST = Integer.MIN_VALUE;
    private static final int HIGHEST = Integer.MAX_VALUE;

    private PromisesTest() {
    }

    public static void main(String[] args) {
        newObject();
        put();
        wipe();
        send();
        sendOrderOfExceptions();
        sendChangesNothingWhenItThrows();
        bitScrambled();
        bitCoded();
        bitMissing();
        sampleOfTraining();
        sampleOfSymbols();
        sampleOfSignal();
        sampleOfPilots();
        sampleMissing();
        airLeadEchoTurns();
        airThrows();
        disturb();
        stir();
        cut();
        receiveAll();
        receiveNothing();
        receiveNoStart();
        receiveFirstStart();
        receiveBadSignal();
        receiveTooShort();
        receiveNoScrambler();
        receiveThroughNoise();
        got();
        heard();
        learned();
        Check.end();
    }

    private static CarrierLink sent(int n, long bytes, int rate, int seed) {
        CarrierLink x = new CarrierLink();
        Check.same("put", x.put(n, bytes), true);
        x.send(rate, seed);
        return x;
    }

    private static CarrierLink aired(int n, long bytes, int rate, int seed, int lead) {
        CarrierLink x = sent(n, bytes, rate, seed);
        x.air(lead, 0, 0);
        return x;
    }

    private static String bits(CarrierLink x, int stage, int from, int to) {
        StringBuilder text = new StringBuilder();
        for (int k = from; k < to; k++) {
            text.append(x.bit(stage, k));
        }
        return text.toString();
    }

    /** Disturbs the air, which holds the frame from lead on, until it holds another one. */
    private static void forge(CarrierLink x, int lead, List<int[]> target) {
        for (int k = 0; k < target.size(); k++) {
            int i = target.get(k)[0] - x.sample(true, lead + k, false);
            int q = target.get(k)[1] - x.sample(true, lead + k, true);
            if (i != 0 || q != 0) {
                Check.same("disturb", x.disturb(lead + k, (short) i, (short) q), true);
            }
        }
    }

    private static void newObject() {
        CarrierLink x = new CarrierLink();
        Check.same("NONE", CarrierLink.NONE, -1);
        Check.throwsIt("new: send", STATE, () -> x.send(0, 1));
        Check.throwsIt("new: air", STATE, () -> x.air(0, 0, 0));
        Check.throwsIt("new: receive", STATE, () -> x.receive());
        Check.throwsIt("new: sample of the frame", INDEX, () -> x.sample(false, 0, false));
        Check.throwsIt("new: sample of the air", INDEX, () -> x.sample(true, 0, true));
        for (int stage = -1; stage <= 3; stage++) {
            Check.same("new: how many bits", x.bit(stage, -1), -1);
            Check.same("new: bit 0", x.bit(stage, 0), -1);
        }
        Check.same("new: disturb", x.disturb(0, (short) 1, (short) 1), false);
        Check.same("new: stir", x.stir(0, 1), false);
        Check.same("new: cut(0)", x.cut(0), false);
        Check.same("new: got", x.got(0), -1);
        for (int w = -1; w <= 6; w++) {
            Check.same("new: heard " + w, x.heard(w), -1);
        }
        for (int c = -1; c <= 16; c++) {
            Check.same("new: learned " + c, x.learned(c, false), 0);
            Check.same("new: learned " + c, x.learned(c, true), 0);
        }
    }

    private static void put() {
        CarrierLink x = new CarrierLink();
        for (int n : new int[] {LOWEST, -1, 0, 9, 12, HIGHEST}) {
            Check.same("put of " + n, x.put(n, 1), false);
        }
        Check.throwsIt("refused puts add nothing", STATE, () -> x.send(0, 1));
        Check.same("put 8", x.put(8, 0x8001020304050607L), true);
        Check.same("put 5 behind 8", x.put(5, 0), false);
        Check.same("put 3 of a longer number", x.put(3, 0x1122334455667788L), true);
        Check.same("put 2 behind 11", x.put(2, 0), false);
        Check.same("put 1 behind 11", x.put(1, -1), true);
        Check.same("put 1 behind 12", x.put(1, 0), false);
        x.send(1, 9);
        x.air(0, 0, 0);
        Check.same("twelve bytes", x.receive(), 12);
        int[] due = {0x80, 1, 2, 3, 4, 5, 6, 7, 0x66, 0x77, 0x88, 0xff};
        for (int k = 0; k < 12; k++) {
            Check.same("byte " + k, x.got(k), due[k]);
        }
    }

    private static void wipe() {
        CarrierLink x = aired(8, 7, 0, 5, 0);
        x.receive();
        x.wipe();
        Check.throwsIt("send behind wipe", STATE, () -> x.send(0, 5));
        Check.same("the frame stays", x.bit(0, -1), 78);
        Check.same("the frame's samples stay", x.sample(false, 39, true), (short) 251);
        Check.same("the air stays", x.receive(), 8);
        Check.same("what was received stays", x.got(7), 7);
        Check.same("put 8 behind wipe", x.put(8, 1), true);
        Check.same("put 4 behind wipe", x.put(4, 1), true);
        x.wipe();
        x.wipe();
        Check.same("put 1 behind wipe", x.put(1, 33), true);
        Check.same("one byte alone", x.send(0, 1), 180);
    }

    private static void send() {
        int[] inSymbol = {6, 12, 18, 36};
        for (int rate = 0; rate <= 3; rate++) {
            for (int n = 1; n <= 12; n++) {
                CarrierLink x = new CarrierLink();
                x.put(Math.min(n, 8), -1);
                if (n > 8) {
                    x.put(n - 8, 0);
                }
                int symbols = (13 + 8 * n + inSymbol[rate] - 1) / inSymbol[rate];
                Check.same("send of " + n + " with " + rate, x.send(rate, n), 100 + 20 * symbols);
                Check.same("the bytes stay", x.send(rate, 127), 100 + 20 * symbols);
                Check.same("bits", x.bit(0, -1), symbols * inSymbol[rate]);
            }
        }
        // 29 bits are one symbol with rate 3, 37 are two.
        Check.same("rate 3 with 2 bytes", sent(2, 0, 3, 1).bit(0, -1), 36);
        Check.same("rate 3 with 3 bytes", sent(3, 0, 3, 1).bit(0, -1), 72);
        CarrierLink x = sent(1, 250, 0, 50);
        x.send(3, 2);
        x.send(0, 50);
        CarrierLink y = sent(1, 250, 0, 50);
        for (int k = 0; k < 180; k++) {
            Check.same("no frame leaves a trace in the next", x.sample(false, k, false), y.sample(false, k, false));
            Check.same("no frame leaves a trace in the next", x.sample(false, k, true), y.sample(false, k, true));
        }
    }

    private static void sendOrderOfExceptions() {
        CarrierLink x = new CarrierLink();
        Check.throwsIt("wrong rate and no bytes", ARGUMENT, () -> x.send(4, 1));
        Check.throwsIt("wrong seed and no bytes", ARGUMENT, () -> x.send(0, 0));
        x.put(1, 1);
        for (int rate : new int[] {LOWEST, -1, 4, HIGHEST}) {
            Check.throwsIt("rate " + rate, ARGUMENT, () -> x.send(rate, 1));
        }
        for (int seed : new int[] {LOWEST, -1, 0, 128, HIGHEST}) {
            Check.throwsIt("seed " + seed, ARGUMENT, () -> x.send(0, seed));
        }
    }

    private static void sendChangesNothingWhenItThrows() {
        CarrierLink x = sent(1, 1, 0, 127);
        x.wipe();
        Check.answerOf(() -> x.send(3, 5));
        Check.answerOf(() -> x.send(9, 5));
        Check.same("bits stay", x.bit(0, -1), 24);
        Check.same("air of the frame before", x.air(1, 0, 0), 181);
        x.put(1, 2);
        x.send(3, 5);
        Check.same("the air stays behind send", x.receive(), 1);
        Check.same("its byte", x.got(0), 1);
    }

    private static void bitScrambled() {
        CarrierLink x = sent(3, 0, 0, 127);
        // What this scrambler is known to begin with; the six behind 7 + 24 bits are 0.
        String known = "0000111011110010110010010000001000100110";
        Check.same("scrambled 0s", bits(x, 0, 0, 31), known.substring(0, 31));
        Check.same("six 0s", bits(x, 0, 31, 37), "000000");
        Check.same("scrambled behind them", bits(x, 0, 37, 40), known.substring(37));
        x.wipe();
        x.put(3, 0x0180ff);
        x.send(0, 127);
        StringBuilder due = new StringBuilder();
        String plain = "0000000" + "10000000" + "00000001" + "11111111";
        for (int k = 0; k < 31; k++) {
            due.append(known.charAt(k) == plain.charAt(k) ? '0' : '1');
        }
        Check.same("scrambled bytes, the lowest bit first", bits(x, 0, 0, 31), due.toString());
        Check.same("six 0s again", bits(x, 0, 31, 37), "000000");
        Check.same("another seed", bits(sent(1, 0, 0, 1), 0, 0, 7), "0001001");
    }

    private static void bitCoded() {
        CarrierLink x = sent(3, 0, 0, 127);
        // 0000111 gives 00 00 00 00, then 11, 10, 01.
        Check.same("coded", bits(x, 1, 0, 14), "00000000111001");
        Check.same("twice as many", x.bit(1, -1), 84);
        for (int rate = 0; rate <= 3; rate++) {
            CarrierLink y = sent(7, 0x12f45678abcdefL, rate, 77);
            List<Integer> data = Waves.bitsOf(bits(y, 0, 0, y.bit(0, -1)));
            List<Integer> due = Reference.coded(data, rate >= 2);
            Check.same("coded with rate " + rate, Waves.bitsOf(bits(y, 1, 0, y.bit(1, -1))), due);
            Check.same("so many", y.bit(1, -1), rate >= 2 ? data.size() / 3 * 4 : data.size() * 2);
        }
    }

    private static void bitMissing() {
        CarrierLink x = sent(2, 1, 0, 93);
        for (int stage : new int[] {LOWEST, -1, 3, HIGHEST}) {
            Check.same("stage " + stage, x.bit(stage, 0), -1);
            Check.same("stage " + stage, x.bit(stage, -1), -1);
        }
        for (int stage = 0; stage < 3; stage++) {
            int count = stage == 0 ? 30 : 60;
            Check.same("how many", x.bit(stage, -1), count);
            Check.holds("the last one", x.bit(stage, count - 1) >= 0);
            for (int k : new int[] {LOWEST, -2, count, 143, 144, 239, 240, HIGHEST}) {
                Check.same("bit " + k, x.bit(stage, k), -1);
            }
        }
        // A shorter frame leaves nothing of a longer one behind.
        x.wipe();
        x.put(1, 1);
        x.send(1, 1);
        Check.same("of the latest frame", x.bit(0, -1), 24);
        Check.same("none of the one before", x.bit(0, 24), -1);
    }

    private static void sampleOfTraining() {
        CarrierLink x = sent(1, 1, 0, 1);
        double[][] points = new double[16][2];
        for (int k = 0; k < 14; k++) {
            points[Reference.USED[k]][0] = 1024 * Reference.E[k];
        }
        for (int k = 0; k < 16; k++) {
            near("T " + k, x, 8 + k, points, k);
            for (boolean q : new boolean[] {false, true}) {
                short sample = x.sample(false, 8 + k, q);
                Check.same("T again", x.sample(false, 24 + k, q), sample);
                if (k >= 8) {
                    Check.same("T ahead", x.sample(false, k - 8, q), sample);
                }
            }
        }
    }

    /** The sums with true sines: fixed point may be a little off, and no more. */
    private static void near(String what, CarrierLink x, int sample, double[][] points, int t) {
        double i = 0;
        double q = 0;
        for (int c = 0; c < 16; c++) {
            double angle = 2 * Math.PI * c * t / 16;
            i += (points[c][0] * Math.cos(angle) - points[c][1] * Math.sin(angle)) / 4;
            q += (points[c][1] * Math.cos(angle) + points[c][0] * Math.sin(angle)) / 4;
        }
        double offI = Math.abs(i - x.sample(false, sample, false));
        double offQ = Math.abs(q - x.sample(false, sample, true));
        Check.holds(what + " is off by " + offI + ", " + offQ, offI < 4 && offQ < 4);
    }

    private static void sampleOfSymbols() {
        for (int rate = 0; rate <= 3; rate++) {
            CarrierLink x = sent(8, 0x5a17c0ffee112233L, rate, 42);
            int m = Reference.M[rate];
            for (int s = 0; s < x.bit(2, -1) / (12 * m); s++) {
                double[][] points = mapped(x, rate, s);
                int from = 100 + 20 * s;
                for (int t = 0; t < 20; t++) {
                    near("rate " + rate + " symbol " + s + " sample " + t, x, from + t, points, (t + 12) % 16);
                }
            }
        }
    }

    private static double[][] mapped(CarrierLink x, int rate, int s) {
        double[][] points = new double[16][2];
        int m = Reference.M[rate];
        for (int j = 0; j < 12; j++) {
            double[] point = points[Reference.DATA_CARRIERS[j]];
            String b = bits(x, 2, s * 12 * m + m * j, s * 12 * m + m * j + m);
            switch (m) {
                case 1 -> point[0] = b.equals("1") ? 1024 : -1024;
                case 2 -> {
                    point[0] = b.charAt(0) == '1' ? 724 : -724;
                    point[1] = b.charAt(1) == '1' ? 724 : -724;
                }
                default -> {
                    point[0] = Waves.level(b.substring(0, 2));
                    point[1] = Waves.level(b.substring(2));
                }
            }
        }
        // The scrambler that begins with 127, from the fourth bit on: three symbols are SIGNAL's.
        double p = "0111011110010110010010000001".charAt(s) == '1' ? -1024 : 1024;
        points[4][0] = p;
        points[12][0] = -p;
        return points;
    }

    private static void sampleOfSignal() {
        // rate 2 is 01, five bytes are 1010, and three 1s need a fourth.
        CarrierLink x = sent(5, 99, 2, 88);
        List<int[]> due = Reference.frameOf(Waves.bitsOf("011010100000000000"), Waves.bitsOf("0".repeat(18)), 2);
        for (int k = 40; k < 100; k++) {
            Check.same("SIGNAL's sample " + k, x.sample(false, k, false), (short) due.get(k)[0]);
            Check.same("SIGNAL's sample " + k, x.sample(false, k, true), (short) due.get(k)[1]);
        }
    }

    private static void sampleOfPilots() {
        // 19 symbols and SIGNAL's three: the longest frame.
        CarrierLink x = new CarrierLink();
        x.put(8, 0);
        x.put(4, 0);
        Check.same("the longest frame", x.send(0, 127), 480);
        for (int s = 0; s < 19; s++) {
            double[][] points = mapped(x, 0, s);
            for (int t = 0; t < 3; t++) {
                near("pilots of symbol " + s, x, 104 + 20 * s + t, points, t);
            }
        }
        Check.throwsIt("behind the longest", INDEX, () -> x.sample(false, 480, false));
        Check.same("the longest on the air", x.air(40, 3, 3), 520);
        Check.throwsIt("behind the longest on the air", INDEX, () -> x.sample(true, 520, false));
        Check.same("is received", x.receive(), 12);
    }

    private static void sampleMissing() {
        CarrierLink x = sent(1, 0, 0, 127);
        Check.same("on the frame", x.sample(false, 39, true), (short) 251);
        for (int k : new int[] {LOWEST, -1, 180, 480, HIGHEST}) {
            Check.throwsIt("sample " + k, INDEX, () -> x.sample(false, k, false));
            Check.throwsIt("sample " + k, INDEX, () -> x.sample(false, k, true));
        }
        Check.throwsIt("no air yet", INDEX, () -> x.sample(true, 0, false));
        x.air(1, 0, 0);
        Check.same("on the air", x.sample(true, 40, true), (short) 251);
        Check.holds("the last one", x.sample(true, 180, true) == x.sample(false, 179, true));
        Check.throwsIt("sample 181", INDEX, () -> x.sample(true, 181, false));
        Check.throwsIt("sample -1", INDEX, () -> x.sample(true, -1, false));
    }

    private static void airLeadEchoTurns() {
        for (int echo = 0; echo <= 3; echo++) {
            for (int turns = 0; turns <= 3; turns++) {
                CarrierLink x = sent(1, 77, 1, 3);
                int lead = 10 * echo + turns;
                Check.same("air", x.air(lead, echo, turns), 140 + lead);
                for (int k = 0; k < lead; k++) {
                    Check.same("lead", x.sample(true, k, k % 2 == 0), (short) 0);
                }
                for (int k = 0; k < 60; k++) {
                    int i = x.sample(false, k, false);
                    int q = x.sample(false, k, true);
                    if (echo > 0 && k >= echo) {
                        i += Math.floorDiv(x.sample(false, k - echo, false), 2);
                        q += Math.floorDiv(x.sample(false, k - echo, true), 2);
                    }
                    int[] dueI = {i, -q, -i, q};
                    int[] dueQ = {q, i, -q, -i};
                    Check.same("air's I", x.sample(true, lead + k, false), (short) dueI[turns]);
                    Check.same("air's Q", x.sample(true, lead + k, true), (short) dueQ[turns]);
                }
            }
        }
        CarrierLink x = aired(1, 77, 1, 3, 40);
        x.stir(500, 5);
        x.air(0, 0, 0);
        for (int k = 0; k < 140; k++) {
            Check.same("in place of what was", x.sample(true, k, true), x.sample(false, k, true));
        }
        Check.throwsIt("nothing is left of it", INDEX, () -> x.sample(true, 140, true));
    }

    private static void airThrows() {
        CarrierLink none = new CarrierLink();
        Check.throwsIt("no frame", STATE, () -> none.air(40, 3, 3));
        Check.throwsIt("no frame and a wrong lead", ARGUMENT, () -> none.air(41, 0, 0));
        CarrierLink x = aired(1, 1, 1, 1, 7);
        for (int wrong : new int[] {LOWEST, -1, 41, HIGHEST}) {
            Check.throwsIt("lead " + wrong, ARGUMENT, () -> x.air(wrong, 0, 0));
        }
        for (int wrong : new int[] {LOWEST, -1, 4, HIGHEST}) {
            Check.throwsIt("echo " + wrong, ARGUMENT, () -> x.air(0, wrong, 0));
            Check.throwsIt("turns " + wrong, ARGUMENT, () -> x.air(0, 0, wrong));
        }
        Check.same("the air stays as it was", x.sample(true, 46, true), (short) 251);
    }

    private static void disturb() {
        CarrierLink x = aired(1, 1, 1, 1, 2);
        Check.same("disturb", x.disturb(0, (short) 100, (short) -7), true);
        Check.same("disturb again", x.disturb(0, (short) -30, (short) -7), true);
        Check.same("I", x.sample(true, 0, false), (short) 70);
        Check.same("Q", x.sample(true, 0, true), (short) -14);
        Check.same("its neighbour", x.sample(true, 1, false), (short) 0);
        x.disturb(1, (short) 32767, (short) -32768);
        x.disturb(1, (short) 0, (short) 0);
        Check.same("the highest", x.sample(true, 1, false), (short) 32767);
        Check.same("the lowest", x.sample(true, 1, true), (short) -32768);
        x.disturb(1, (short) 1, (short) -1);
        Check.same("no higher", x.sample(true, 1, false), (short) 32767);
        Check.same("no lower", x.sample(true, 1, true), (short) -32768);
        x.disturb(1, (short) -32768, (short) 32767);
        Check.same("back from the highest", x.sample(true, 1, false), (short) -1);
        Check.same("back from the lowest", x.sample(true, 1, true), (short) -1);
        for (int k : new int[] {LOWEST, -1, 142, 519, 520, HIGHEST}) {
            Check.same("disturb " + k, x.disturb(k, (short) 1, (short) 1), false);
        }
        Check.same("the last one", x.disturb(141, (short) 1, (short) 1), true);
        Check.holds("the frame stays", x.sample(false, 139, false) == x.sample(true, 141, false) - 1);
        x.cut(100);
        Check.same("behind the cut", x.disturb(100, (short) 1, (short) 1), false);
    }

    private static void stir() {
        for (int amount : new int[] {0, 1, 100, 2000}) {
            for (int seed : new int[] {0, 1, -1, LOWEST, HIGHEST, 123456789}) {
                CarrierLink x = aired(1, 9, 1, 1, 20);
                Check.same("stir", x.stir(amount, seed), true);
                long next = seed;
                for (int k = 0; k < 160; k++) {
                    for (boolean q : new boolean[] {false, true}) {
                        next = (next * 1103515245L + 12345) & 0xffffffffL;
                        long more = next / 65536 % (2 * amount + 1) - amount;
                        int was = k < 20 ? 0 : x.sample(false, k - 20, q);
                        Check.same("stirred " + k, (long) x.sample(true, k, q), was + more);
                    }
                }
            }
        }
        CarrierLink x = aired(1, 9, 1, 1, 0);
        for (int amount : new int[] {LOWEST, -1, 2001, HIGHEST}) {
            Check.same("stir by " + amount, x.stir(amount, 1), false);
        }
        Check.same("it stays as it was", x.sample(true, 39, true), (short) 251);
        x.disturb(0, (short) 32767, (short) -32768);
        x.disturb(1, (short) 32767, (short) -32768);
        int high = 0;
        int low = 0;
        for (int seed = 1; seed <= 20; seed++) {
            x.stir(5, seed);
            high = Math.max(high, x.sample(true, 0, false));
            low = Math.min(low, x.sample(true, 1, true));
            Check.holds("saturated", x.sample(true, 0, false) > 30000 && x.sample(true, 0, true) < -30000);
        }
        Check.same("no higher than this", high, 32767);
        Check.same("no lower than this", low, -32768);
        x.cut(0);
        Check.same("nothing on the air", x.stir(1, 1), false);
    }

    private static void cut() {
        CarrierLink x = aired(2, 258, 1, 1, 5);
        Check.same("all that there are", x.cut(165), false);
        for (int n : new int[] {LOWEST, -1, 166, 520, HIGHEST}) {
            Check.same("cut " + n, x.cut(n), false);
        }
        Check.same("nothing was cut", x.receive(), 2);
        Check.same("cut", x.cut(164), true);
        Check.same("the last one is left", x.sample(true, 163, true), x.sample(false, 158, true));
        Check.throwsIt("the others are not", INDEX, () -> x.sample(true, 164, true));
        Check.same("cut no further", x.cut(164), false);
        Check.holds("the frame is whole", Check.answerOf(() -> x.sample(false, 159, true)) instanceof Short);
        Check.same("cut to one", x.cut(1), true);
        Check.same("cut to none", x.cut(0), true);
        Check.same("cut none", x.cut(0), false);
        Check.throwsIt("nothing on the air", STATE, () -> x.receive());
        Check.same("what was received stays", x.got(1), 2);
        Check.same("again on the air", x.air(0, 0, 0), 160);
        Check.same("and whole", x.receive(), 2);
    }

    private static void receiveAll() {
        for (int rate = 0; rate <= 3; rate++) {
            for (int n = 1; n <= 12; n++) {
                for (int echo = 0; echo <= 3; echo++) {
                    int seed = 1 + (rate * 48 + n * 4 + echo) * 37 % 127;
                    receiveOne(rate, n, echo, seed);
                }
            }
        }
        for (int seed = 1; seed <= 127; seed++) {
            receiveOne(seed % 4, 1 + seed % 12, 0, seed);
        }
    }

    private static void receiveOne(int rate, int n, int echo, int seed) {
        String what = "rate " + rate + ", " + n + " bytes, echo " + echo + ", seed " + seed + ": ";
        CarrierLink x = new CarrierLink();
        long number = 0x9e3779b97f4a7c15L * seed;
        x.put(Math.min(n, 8), number);
        if (n > 8) {
            x.put(n - 8, number);
        }
        x.send(rate, seed);
        int lead = (seed * 7 + n) % 41;
        x.air(lead, echo, (seed + n) % 4);
        Check.same(what + "receive", x.receive(), n);
        for (int k = 0; k < n; k++) {
            int place = k < 8 ? Math.min(n, 8) - 1 - k : n - 1 - k;
            Check.same(what + "byte " + k, x.got(k), (int) (number >>> 8 * place & 255));
        }
        Check.same(what + "no more", x.got(n), -1);
        int state = 0;
        for (int f : Reference.scramblerBits(seed, 7)) {
            state = state * 2 + f;
        }
        int[] due = {n, lead, rate, n, state};
        for (int w = 0; w < due.length; w++) {
            Check.same(what + "heard " + w, x.heard(w), due[w]);
        }
    }

    private static void receiveNothing() {
        CarrierLink x = sent(1, 1, 0, 1);
        Check.throwsIt("a frame, but no air", STATE, () -> x.receive());
        x.air(0, 0, 0);
        x.receive();
        x.cut(0);
        Check.throwsIt("all is cut", STATE, () -> x.receive());
        Check.same("the latest one stays", x.heard(0), 1);
        Check.same("its bytes stay", x.got(0), 1);
        Check.same("its carriers stay", x.learned(1, false), 2048);
    }

    private static void receiveNoStart() {
        CarrierLink x = aired(1, 1, 0, 1, 0);
        x.cut(100);
        Check.same("a hundred samples", x.receive(), -4);
        x.cut(99);
        Check.same("one less", x.receive(), -2);
        CarrierLink y = aired(1, 1, 0, 1, 40);
        y.cut(100);
        Check.same("d = 0 alone, and silence there", y.receive(), -2);
        CarrierLink z = aired(1, 1, 0, 1, 0);
        List<int[]> silence = new ArrayList<>();
        for (int k = 0; k < 180; k++) {
            silence.add(new int[2]);
        }
        forge(z, 0, silence);
        Check.same("silence", z.receive(), -2);
        // Sample 8 is met by T(0) of d = 0 alone, and T(0) is 1024, 0: the power is 16 * (I^2 + Q^2).
        whisper("just strong enough", new int[] {2500, 0}, new int[2], true);
        whisper("both parts count", new int[] {-1500, 2000}, new int[2], true);
        whisper("just too weak", new int[] {2499, 0}, new int[2], false);
        whisper("just too weak in both", new int[] {1499, -2000}, new int[2], false);
        // R a little above -10000 * 256 is -10000 still, as >> rounds down.
        int[] little = littleMore();
        whisper("rounded down", new int[] {-2500, 0}, little, true);
        whisper("below zero", new int[] {0, -2500}, new int[2], true);
    }

    /** Silence but for the samples 8 and 9. */
    private static void whisper(String what, int[] eight, int[] nine, boolean enough) {
        CarrierLink x = aired(1, 1, 0, 1, 0);
        List<int[]> wave = new ArrayList<>();
        for (int k = 0; k < 180; k++) {
            wave.add(k == 8 ? eight : k == 9 ? nine : new int[2]);
        }
        forge(x, 0, wave);
        Check.same(what, x.receive(), enough ? -3 : -2);
        Check.same(what + ": START", x.heard(1), enough ? 0 : -1);
    }

    /** A sample that adds less than 256 to R with T(1), and as little to J. */
    private static int[] littleMore() {
        long[] t = Reference.training()[1];
        for (int i = -20; i <= 20; i++) {
            for (int q = -20; q <= 20; q++) {
                long r = i * t[0] + q * t[1];
                long j = q * t[0] - i * t[1];
                if (r > 0 && r < 256 && j >= 0 && j < 256) {
                    return new int[] {i, q};
                }
            }
        }
        Check.holds("there is such a sample", false);
        return new int[2];
    }

    private static void receiveFirstStart() {
        // T repeats itself: a third T behind the two makes two starts as good as each other.
        CarrierLink x = aired(1, 1, 0, 1, 0);
        List<int[]> wave = new ArrayList<>();
        for (int k = 0; k < 180; k++) {
            int t = 8 + Math.floorMod(k - 8, 16);
            boolean training = k >= 8 && k < 56;
            wave.add(training ? new int[] {x.sample(false, t, false), x.sample(false, t, true)} : new int[2]);
        }
        forge(x, 0, wave);
        x.receive();
        Check.same("the first of two", x.heard(1), 0);
    }

    private static void badSignal(String what, String signal, int due) {
        CarrierLink x = aired(1, 0x55, 0, 1, 0);
        List<Integer> data = Reference.dataOf(List.of(0x55), 0, 1);
        forge(x, 0, Reference.frameOf(Waves.bitsOf(signal), data, 0));
        Check.same(what, x.receive(), due);
        int[] heard = due == -3 ? new int[] {-3, 0, -1, -1, -1, -1} : new int[] {due, 0, 0};
        for (int w = 0; w < heard.length; w++) {
            Check.same(what + ": heard " + w, x.heard(w), heard[w]);
        }
        Check.same(what + ": got", x.got(0), due == -3 ? -1 : 0x55);
        Check.same(what + ": learned", x.learned(1, false), 2048);
    }

    private static void receiveBadSignal() {
        badSignal("as it is", "001000100000000000", 1);
        badSignal("odd", "001000000000000000", -3);
        badSignal("no bytes", "000000000000000000", -3);
        badSignal("thirteen bytes", "001011100000000000", -3);
        badSignal("fourteen bytes", "000111100000000000", -3);
        badSignal("fifteen bytes", "001111000000000000", -3);
        for (int k = 7; k < 18; k++) {
            StringBuilder signal = new StringBuilder("001000100000000000");
            signal.setCharAt(k, '1');
            badSignal("a 1 at " + k, signal.toString(), -3);
        }
        CarrierLink x = aired(1, 1, 0, 1, 0);
        // Twelve bytes are not too many, but there are too few samples for them.
        forge(x, 0, Reference.frameOf(Waves.bitsOf("000011000000000000"), Waves.bitsOf("0".repeat(24)), 0));
        Check.same("twelve bytes", x.receive(), -4);
        Check.same("heard so", x.heard(3), 12);
    }

    private static void receiveTooShort() {
        for (int rate = 0; rate <= 3; rate++) {
            for (int lead : new int[] {0, 17, 40}) {
                CarrierLink x = sent(6, 0x010203040506L, rate, 11);
                int whole = x.air(lead, 0, 0);
                Check.same("all of it", x.receive(), 6);
                Check.same("one is cut off", x.cut(whole - 1), true);
                Check.same("one too few", x.receive(), -4);
                int[] due = {-4, lead, rate, 6, -1, -1};
                for (int w = 0; w < 6; w++) {
                    Check.same("heard " + w, x.heard(w), due[w]);
                }
                Check.same("no byte", x.got(0), -1);
                Check.same("learned", x.learned(15, false), 2048);
                x.cut(lead + 100);
                Check.same("SIGNAL alone", x.receive(), -4);
            }
        }
    }

    private static void receiveNoScrambler() {
        for (int rate = 0; rate <= 3; rate++) {
            CarrierLink x = aired(2, 0xabcd, rate, 1, 9);
            List<Integer> data = Reference.dataOf(List.of(0xab, 0xcd), rate, 0);
            forge(x, 9, Reference.frameOf(Reference.signalOf(rate, 2), data, rate));
            Check.same("no scrambler with rate " + rate, x.receive(), -5);
            int[] due = {-5, 9, rate, 2, 0};
            for (int w = 0; w < 5; w++) {
                Check.same("heard " + w, x.heard(w), due[w]);
            }
            Check.holds("a metric", x.heard(5) > 10000);
            Check.same("no byte", x.got(0), -1);
            Check.same("learned", x.learned(9, false), 2048);
        }
    }

    private static void receiveThroughNoise() {
        for (int seed = 1; seed <= 30; seed++) {
            CarrierLink x = aired(8, 0x1122334455667788L, seed % 2, seed, seed);
            x.stir(250, seed);
            Check.same("through noise", x.receive(), 8);
            Check.same("its last byte", x.got(7), 0x88);
            Check.holds("a metric below the best", x.heard(5) < 2047 * x.bit(1, -1));
        }
    }

    private static void got() {
        CarrierLink x = aired(3, 0xff0080, 2, 100, 0);
        Check.same("before receive", x.got(0), -1);
        x.receive();
        int[] due = {255, 0, 128};
        for (int k = 0; k < 3; k++) {
            Check.same("byte " + k, x.got(k), due[k]);
        }
        for (int k : new int[] {LOWEST, -1, 3, 11, 12, HIGHEST}) {
            Check.same("byte " + k, x.got(k), -1);
        }
        x.wipe();
        x.put(1, 17);
        x.send(0, 1);
        x.air(0, 0, 0);
        Check.same("until the next receive", x.got(2), 128);
        x.receive();
        Check.same("of the latest", x.got(0), 17);
        Check.same("nothing of the one before", x.got(1), -1);
        x.cut(99);
        x.receive();
        Check.same("it found nothing", x.got(0), -1);
    }

    private static void heard() {
        CarrierLink x = aired(2, 26729, 0, 93, 5);
        for (int w = 0; w < 6; w++) {
            Check.same("before receive", x.heard(w), -1);
        }
        x.receive();
        int[] due = {2, 5, 0, 2, 54, 122820};
        for (int w = 0; w < 6; w++) {
            Check.same("heard " + w, x.heard(w), due[w]);
        }
        for (int w : new int[] {LOWEST, -1, 6, HIGHEST}) {
            Check.same("heard " + w, x.heard(w), -1);
        }
        x.cut(99);
        x.receive();
        Check.same("no start", x.heard(0), -2);
        for (int w = 1; w < 6; w++) {
            Check.same("heard " + w, x.heard(w), -1);
        }
    }

    private static void learned() {
        CarrierLink x = aired(1, 1, 0, 1, 0);
        Check.same("before receive", x.learned(1, false), 0);
        x.receive();
        int[][] turned = {{2048, 0}, {0, 2048}, {-2048, 0}, {0, -2048}};
        for (int turns = 0; turns < 4; turns++) {
            x.air(4, 0, turns);
            x.receive();
            for (int c = 0; c < 16; c++) {
                boolean used = c != 0 && c != 8;
                nearly("real of " + c, x.learned(c, false), used ? turned[turns][0] : 0, used);
                nearly("imaginary of " + c, x.learned(c, true), used ? turned[turns][1] : 0, used);
            }
        }
        for (int c : new int[] {LOWEST, -1, 16, HIGHEST}) {
            Check.same("no carrier " + c, x.learned(c, false), 0);
            Check.same("no carrier " + c, x.learned(c, true), 0);
        }
        x.stir(2000, 3);
        x.receive();
        Check.same("carrier 0 is not used", x.learned(0, false), 0);
        Check.same("carrier 8 is not used", x.learned(8, true), 0);
        x.cut(50);
        x.receive();
        for (int c = 0; c < 16; c++) {
            Check.same("no start", x.learned(c, true), 0);
            Check.same("no start", x.learned(c, false), 0);
        }
    }

    private static void nearly(String what, int got, int due, boolean used) {
        Check.holds(what + " is " + got + ", due is some " + due, Math.abs(got - due) <= (used ? 8 : 0));
    }
}
