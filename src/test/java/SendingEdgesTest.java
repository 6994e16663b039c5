import java.util.ArrayList;
import java.util.HashSet;
import java.util.List;
import java.util.Set;

/** The sentences of 'Terms' about bits, frames and the air that name a boundary, each on its own. */
public final class SendingEdgesTest {
    private static final int[] IN_SYMBOL = {6, 12, 18, 36};
    private static final int[] ON_CARRIER = {1, 2, 2, 4};

    private SendingEdgesTest() {
    }

    public static void main(String[] args) {
        Check.sentence("used for at most 512 calls", SendingEdgesTest::lastCall);
        Check.sentence("to SATURATE: disturbed", SendingEdgesTest::saturatedByDisturb);
        Check.sentence("to SATURATE: stirred", SendingEdgesTest::saturatedByStir);
        Check.sentence(">> is as in Java", SendingEdgesTest::shiftsOfNegatives);
        Check.sentence("RATES 0, 1, 2, 3; THIN is the rate 2 and 3", SendingEdgesTest::rates);
        Check.sentence("SCRAMBLER: of its state r, 1 .. 127", SendingEdgesTest::scramblerStates);
        Check.sentence("SCRAMBLER: & 127", SendingEdgesTest::scramblerWraps);
        Check.sentence("x(k) is 0 for k below 0", SendingEdgesTest::coderBegins);
        Check.sentence("with THIN B(k) is left out if k % 3 is 1, and A(k) if k % 3 is 2", SendingEdgesTest::thinned);
        Check.sentence("INTERLEAVING: bit k (from 0) of the N of a symbol", SendingEdgesTest::interleaved);
        Check.sentence("0 and 8 are not used, and 0", SendingEdgesTest::unusedCarriers);
        Check.sentence("MAPPING", SendingEdgesTest::mapped);
        Check.sentence("pilots of symbol number k (from 0, the first of SIGNAL)", SendingEdgesTest::pilots);
        Check.sentence("TRANSFORM", SendingEdgesTest::everyFrame);
        Check.sentence("T(8) .. T(15), then T twice", SendingEdgesTest::training);
        Check.sentence("the last four samples and then all sixteen", SendingEdgesTest::prefixes);
        Check.sentence("the first three symbols are SIGNAL", SendingEdgesTest::signal);
        Check.sentence("seven 0s", SendingEdgesTest::sevenZeros);
        Check.sentence("of each the lowest first", SendingEdgesTest::lowestFirst);
        Check.sentence("the six behind the bytes are 0 again", SendingEdgesTest::sixZeros);
        Check.sentence("further 0s up to a multiple of D", SendingEdgesTest::furtherZeros);
        Check.sentence("if the echo e is not 0", SendingEdgesTest::noEcho);
        Check.sentence("(0, 0 if there is none)", SendingEdgesTest::echoBegins);
        Check.sentence("it is turned as often as is said", SendingEdgesTest::turns);
        Check.sentence("ahead of all of them stand LEAD samples 0, 0", SendingEdgesTest::leads);
        Check.end();
    }

    private static Scene sent(int count, int rate, int seed) {
        return Scene.NEW.putMany(count).send(rate, seed);
    }

    private static List<Integer> manyBytes(int count) {
        List<Integer> bytes = new ArrayList<>();
        for (int k = 0; k < count; k++) {
            bytes.add(17 + k);
        }
        return bytes;
    }

    private static int samplesOf(int count, int rate) {
        return (int) sent(count, rate, 1).answer();
    }

    private static void sameSamples(String what, List<int[]> got, List<int[]> due) {
        Check.same(what + ": how many", got.size(), due.size());
        for (int k = 0; k < Math.min(got.size(), due.size()); k++) {
            Check.same(what + ": I of " + k, got.get(k)[0], due.get(k)[0]);
            Check.same(what + ": Q of " + k, got.get(k)[1], due.get(k)[1]);
        }
    }

    private static void lastCall() {
        Scene scene = Scene.NEW.put(3, 0x00ff80).send(2, 127).air(7, 1, 3);
        for (int k = 3; k < 510; k++) {
            scene = scene.stir(k % 3, k);
        }
        Check.same("the 511th call", scene.receive().answer(), 3);
        Check.same("the 512th call", scene.receive().answer(x -> x.got(1)), 255);
    }

    /** Sample 0 of the air is silent, so that it holds what is added. */
    private static void disturbed(int i, int more, int due) {
        Scene scene = sent(1, 3, 1).air(1, 0, 0).disturb(0, i, -1 - i).disturb(0, more, more == -32768 ? 32767 : -more);
        Check.same("disturb", scene.answer(), true);
        Check.same(i + " and " + more, scene.answer(x -> x.sample(true, 0, false)), (short) due);
        int dueQ = Math.max(-32768, Math.min(32767, -1 - i + (more == -32768 ? 32767 : -more)));
        Check.same("its Q", scene.answer(x -> x.sample(true, 0, true)), (short) dueQ);
    }

    private static void saturatedByDisturb() {
        disturbed(32766, 1, 32767);
        disturbed(32767, 0, 32767);
        disturbed(32767, 1, 32767);
        disturbed(32766, 2, 32767);
        disturbed(32767, 32767, 32767);
        disturbed(1, 32767, 32767);
        disturbed(0, 32767, 32767);
        disturbed(-32767, -1, -32768);
        disturbed(-32768, 0, -32768);
        disturbed(-32768, -1, -32768);
        disturbed(-32767, -2, -32768);
        disturbed(-32768, -32768, -32768);
        disturbed(-1, -32768, -32768);
        disturbed(0, -32768, -32768);
        disturbed(32767, -32768, -1);
        disturbed(-32768, 32767, -1);
    }

    /** What stir by 2000 with seed 1 adds to sample 0: 1103527590 >>> 16 is 16838, and 834 is left of it. */
    private static void saturatedByStir() {
        int i = 16838 % 4001 - 2000;
        int q = (int) ((1103527590L * 1103515245L + 12345 & 0xffffffffL) >>> 16) % 4001 - 2000;
        Check.same("what is added", List.of(i, q), List.of(-1166, q));
        stirred(-32768 - i, -32768);
        stirred(-32768 - i - 1, -32768);
        stirred(-32768 - i + 1, -32767);
        stirred(-32768, -32768);
        // Seed 3 adds to I: 3310558080 >>> 16 is 50515, and 2503 is left of it.
        stirredUp(32767 - 503, 32767);
        stirredUp(32767 - 502, 32767);
        stirredUp(32767 - 504, 32766);
        stirredUp(32767, 32767);
    }

    private static void stirred(int i, int due) {
        Scene scene = sent(1, 3, 1).air(1, 0, 0).disturb(0, i, 0).stir(2000, 1);
        Check.same("stirred down from " + i, scene.answer(x -> x.sample(true, 0, false)), (short) due);
    }

    private static void stirredUp(int i, int due) {
        Scene scene = sent(1, 3, 1).air(1, 0, 0).disturb(0, i, 0).stir(2000, 3);
        Check.same("stirred up from " + i, scene.answer(x -> x.sample(true, 0, false)), (short) due);
    }

    /** Sample 9 of a frame is T(1), 196 and -251: half of -251 is -126. */
    private static void shiftsOfNegatives() {
        Scene scene = sent(1, 3, 1).air(0, 1, 0);
        Check.same("T(1)", sent(1, 3, 1).answer(x -> x.sample(false, 9, true)), (short) -251);
        Check.same("T(2)", sent(1, 3, 1).answer(x -> x.sample(false, 10, true)), (short) 362);
        Check.same("362 and half of -251", scene.answer(x -> x.sample(true, 10, true)), (short) (362 - 126));
        Check.same("T(15)", sent(1, 3, 1).answer(x -> x.sample(false, 23, true)), (short) 251);
        Check.same("0 and half of 251", scene.answer(x -> x.sample(true, 24, true)), (short) 125);
    }

    private static void rates() {
        int[][] bits = {{24, 48}, {24, 48}, {36, 48}, {36, 48}};
        for (int rate = 0; rate <= 3; rate++) {
            Scene scene = sent(1, rate, 1);
            Check.same("rate " + rate, scene.answer(x -> x.bit(0, -1)), bits[rate][0]);
            Check.same("rate " + rate + ", coded", scene.answer(x -> x.bit(1, -1)), bits[rate][1]);
            Check.same("rate " + rate + ", placed", scene.answer(x -> x.bit(2, -1)), bits[rate][1]);
            Check.same("rate " + rate + ", samples", scene.answer(), 100 + 20 * bits[rate][0] / IN_SYMBOL[rate]);
        }
        int[][] most = {{114, 228}, {120, 240}, {126, 168}, {144, 192}};
        for (int rate = 0; rate <= 3; rate++) {
            Scene scene = sent(12, rate, 127);
            Check.same("twelve with rate " + rate, scene.answer(x -> x.bit(0, -1)), most[rate][0]);
            Check.same("twelve with rate " + rate + ", coded", scene.answer(x -> x.bit(1, -1)), most[rate][1]);
        }
    }

    private static void scramblerStates() {
        Set<String> first = new HashSet<>();
        for (int seed = 1; seed <= 127; seed++) {
            String bits = Scene.NEW.put(8, 0).put(4, 0).send(3, seed).bits(0);
            // The bits that come out are the state's next lowest ones: state bit 6 came in first.
            int[] row = new int[7 + 103];
            for (int k = 0; k < 7; k++) {
                row[k] = seed >> (6 - k) & 1;
            }
            StringBuilder due = new StringBuilder();
            for (int k = 7; k < row.length; k++) {
                row[k] = row[k - 7] ^ row[k - 4];
                due.append(row[k]);
            }
            Check.same("seed " + seed, bits.substring(0, 103), due.toString());
            first.add(bits.substring(0, 7));
        }
        Check.same("each seed has a beginning of its own", first.size(), 127);
        Check.holds("none of them is all 0", !first.contains("0000000"));
    }

    /** With twelve bytes and rate 3 there are 144 bits, and the scrambler is back where it began behind 127. */
    private static void scramblerWraps() {
        for (int seed : new int[] {1, 64, 127}) {
            String bits = Scene.NEW.put(8, 0).put(4, 0).send(3, seed).bits(0);
            Check.same("seed " + seed, bits.substring(127, 144), bits.substring(0, 17));
        }
    }

    private static void coderBegins() {
        for (int seed = 1; seed <= 127; seed++) {
            Scene scene = sent(1, 0, seed);
            List<Integer> x = Waves.bitsOf("000000" + scene.bits(0));
            StringBuilder due = new StringBuilder();
            for (int k = 6; k < x.size(); k++) {
                due.append(x.get(k) ^ x.get(k - 2) ^ x.get(k - 3) ^ x.get(k - 5) ^ x.get(k - 6));
                due.append(x.get(k) ^ x.get(k - 1) ^ x.get(k - 2) ^ x.get(k - 3) ^ x.get(k - 6));
            }
            Check.same("seed " + seed, scene.bits(1), due.toString());
        }
        // Seed 8 begins with a 1 behind six 0s of the past, and seed 72 does not.
        Check.same("a first 1", sent(1, 0, 8).bits(1).substring(0, 2), "11");
        Check.same("a first 0", sent(1, 0, 72).bits(1).substring(0, 2), "00");
    }

    private static void thinned() {
        for (int count = 1; count <= 12; count++) {
            // D of rate 0 divides that of rate 2, whose frame has the same bits and maybe some more.
            for (int rate = 2; rate <= 3; rate++) {
                Scene scene = sent(count, rate, 99);
                List<Integer> data = Waves.bitsOf(scene.bits(0));
                List<Integer> all = Reference.coded(data, false);
                StringBuilder due = new StringBuilder();
                for (int k = 0; k < data.size(); k += 3) {
                    due.append(all.get(2 * k)).append(all.get(2 * k + 1));
                    due.append(all.get(2 * k + 2));
                    due.append(all.get(2 * k + 5));
                }
                Check.same("rate " + rate + ", " + count, scene.bits(1), due.toString());
            }
            for (int rate = 0; rate <= 1; rate++) {
                Scene scene = sent(count, rate, 99);
                Check.same("none is left out", scene.bits(1).length(), 2 * scene.bits(0).length());
            }
        }
    }

    private static void interleaved() {
        // Places of the bits 0, 1, 2, .. of a symbol, worked out by hand.
        int[] one = {0, 3, 6, 9, 1, 4, 7, 10, 2, 5, 8, 11};
        int[] two = {0, 6, 12, 18, 1, 7, 13, 19, 2, 8, 14, 20, 3, 9, 15, 21, 4, 10, 16, 22, 5, 11, 17, 23};
        int[] four = {
            0, 13, 24, 37, 1, 12, 25, 36, 2, 15, 26, 39, 3, 14, 27, 38, 4, 17, 28, 41, 5, 16, 29, 40,
            6, 19, 30, 43, 7, 18, 31, 42, 8, 21, 32, 45, 9, 20, 33, 44, 10, 23, 34, 47, 11, 22, 35, 46
        };
        int[][] places = {one, two, two, four};
        for (int rate = 0; rate <= 3; rate++) {
            for (int seed = 1; seed <= 127; seed += 6) {
                Scene scene = sent(12, rate, seed);
                String coded = scene.bits(1);
                int n = places[rate].length;
                char[] due = new char[coded.length()];
                for (int k = 0; k < due.length; k++) {
                    due[k / n * n + places[rate][k % n]] = coded.charAt(k);
                }
                Check.same("rate " + rate + ", seed " + seed, scene.bits(2), new String(due));
            }
        }
    }

    /** The point of a carrier in the sixteen samples from there, with true sines. */
    private static double[] pointAt(List<int[]> samples, int from, int carrier) {
        double real = 0;
        double imaginary = 0;
        for (int t = 0; t < 16; t++) {
            double angle = 2 * Math.PI * carrier * t / 16;
            int[] s = samples.get(from + t);
            real += (s[0] * Math.cos(angle) + s[1] * Math.sin(angle)) / 4;
            imaginary += (s[1] * Math.cos(angle) - s[0] * Math.sin(angle)) / 4;
        }
        return new double[] {real, imaginary};
    }

    private static void near(String what, double[] point, int real, int imaginary) {
        boolean near = Math.abs(point[0] - real) < 12 && Math.abs(point[1] - imaginary) < 12;
        Check.holds(what + ": " + point[0] + ", " + point[1] + " is near " + real + ", " + imaginary, near);
    }

    private static void unusedCarriers() {
        for (int rate = 0; rate <= 3; rate++) {
            int count = samplesOf(12, rate);
            List<int[]> samples = sent(12, rate, 55).samples(false, count);
            near("training", pointAt(samples, 8, 0), 0, 0);
            near("training", pointAt(samples, 24, 8), 0, 0);
            for (int from = 44; from + 16 <= count; from += 20) {
                near("carrier 0 at " + from, pointAt(samples, from, 0), 0, 0);
                near("carrier 8 at " + from, pointAt(samples, from, 8), 0, 0);
            }
        }
    }

    private static int[] pointOf(String bits) {
        return switch (bits.length()) {
            case 1 -> new int[] {bits.equals("1") ? 1024 : -1024, 0};
            case 2 -> new int[] {bits.charAt(0) == '1' ? 724 : -724, bits.charAt(1) == '1' ? 724 : -724};
            default -> new int[] {Waves.level(bits.substring(0, 2)), Waves.level(bits.substring(2))};
        };
    }

    private static void mapped() {
        int[] carriers = {9, 10, 11, 13, 14, 15, 1, 2, 3, 5, 6, 7};
        for (int rate = 0; rate <= 3; rate++) {
            Set<String> met = new HashSet<>();
            for (int seed : new int[] {1, 40, 127}) {
                int m = ON_CARRIER[rate];
                int count = samplesOf(12, rate);
                Scene scene = sent(12, rate, seed);
                List<int[]> samples = scene.samples(false, count);
                String bits = scene.bits(2);
                for (int k = 0; k < bits.length(); k += m) {
                    String some = bits.substring(k, k + m);
                    met.add(some);
                    int from = 104 + 20 * (k / (12 * m));
                    int[] due = pointOf(some);
                    near(some + " of rate " + rate, pointAt(samples, from, carriers[k / m % 12]), due[0], due[1]);
                }
            }
            Check.same("all bits were met with rate " + rate, met.size(), 1 << ON_CARRIER[rate]);
        }
    }

    private static void pilots() {
        // What a scrambler gives that begins with 127, for SIGNAL's three symbols and the longest data's nineteen.
        String known = "000" + "0111011110010110010";
        List<int[]> samples = sent(12, 0, 3).samples(false, 480);
        for (int k = 0; k < 22; k++) {
            int p = known.charAt(k) == '1' ? -1024 : 1024;
            near("pilot 4 of symbol " + k, pointAt(samples, 44 + 20 * k, 4), p, 0);
            near("pilot 12 of symbol " + k, pointAt(samples, 44 + 20 * k, 12), -p, 0);
        }
        // The pilots begin anew with every frame.
        sameSamples("a second frame", sent(12, 0, 3).send(0, 3).samples(false, 480), samples);
    }

    private static void everyFrame() {
        for (int rate = 0; rate <= 3; rate++) {
            for (int count = 1; count <= 12; count++) {
                for (int seed : new int[] {1, 2 + 9 * count, 127}) {
                    List<int[]> due = Waves.frame(rate, seed, manyBytes(count));
                    List<int[]> got = sent(count, rate, seed).samples(false, due.size());
                    sameSamples("rate " + rate + ", " + count + " bytes, seed " + seed, got, due);
                }
            }
        }
    }

    private static void training() {
        int[][] t = {
            {1024, 0}, {196, -251}, {574, 362}, {-473, -920}, {512, -512}, {473, 528}, {-1598, 362}, {-196, 1197},
            {0, 0}, {-196, -1197}, {-1598, -362}, {473, -528}, {512, 512}, {-473, 920}, {574, -362}, {196, 251}
        };
        for (int rate = 0; rate <= 3; rate++) {
            List<int[]> samples = sent(1, rate, 9).samples(false, 40);
            for (int k = 0; k < 40; k++) {
                Check.same("I of " + k, samples.get(k)[0], t[(k + 8) % 16][0]);
                Check.same("Q of " + k, samples.get(k)[1], t[(k + 8) % 16][1]);
            }
        }
    }

    private static void prefixes() {
        for (int rate = 0; rate <= 3; rate++) {
            int count = samplesOf(12, rate);
            List<int[]> samples = sent(12, rate, 31).samples(false, count);
            for (int from = 40; from < count; from += 20) {
                for (int k = 0; k < 4; k++) {
                    Check.same("I", samples.get(from + k)[0], samples.get(from + 16 + k)[0]);
                    Check.same("Q", samples.get(from + k)[1], samples.get(from + 16 + k)[1]);
                }
            }
            Check.same("symbols", (count - 40) % 20, 0);
        }
    }

    private static void signal() {
        String[] rates = {"00", "10", "01", "11"};
        String[] counts = {
            "1000", "0100", "1100", "0010", "1010", "0110", "1110", "0001", "1001", "0101", "1101", "0011"
        };
        for (int rate = 0; rate <= 3; rate++) {
            for (int count = 1; count <= 12; count++) {
                String six = rates[rate] + counts[count - 1];
                String even = six.replace("0", "").length() % 2 == 0 ? "0" : "1";
                List<Integer> bits = Waves.bitsOf(six + even + "00000000000");
                List<int[]> due = Reference.frameOf(bits, List.of(), 0);
                List<int[]> got = sent(count, rate, 1).samples(false, 100);
                sameSamples("rate " + rate + ", " + count + " bytes", got, due);
            }
        }
    }

    /** The scrambler's bits, seen where 0s are scrambled. */
    private static String scrambler(int seed) {
        StringBuilder text = new StringBuilder();
        for (int bit : Reference.scramblerBits(seed, 144)) {
            text.append(bit);
        }
        return text.toString();
    }

    private static void sevenZeros() {
        for (int seed = 1; seed <= 127; seed++) {
            // All bytes are 255, so that their first bit shows where they begin.
            String bits = Scene.NEW.put(8, -1).send(1, seed).bits(0);
            String row = scrambler(seed);
            Check.same("the seven", bits.substring(0, 7), row.substring(0, 7));
            Check.holds("the first of the bytes", bits.charAt(7) != row.charAt(7));
            Check.holds("the last of the bytes", bits.charAt(70) != row.charAt(70));
        }
    }

    private static void lowestFirst() {
        for (int place = 0; place < 12; place++) {
            for (int k = 0; k < 8; k++) {
                Scene scene = Scene.NEW;
                for (int b = 0; b < 12; b++) {
                    scene = scene.put(1, b == place ? 1 << k : 0);
                }
                String bits = scene.send(2, 77).bits(0);
                String row = scrambler(77);
                for (int at = 7; at < 7 + 96; at++) {
                    boolean due = at == 7 + 8 * place + k;
                    Check.same("bit " + k + " of byte " + place + " at " + at, bits.charAt(at) != row.charAt(at), due);
                }
            }
        }
    }

    private static void sixZeros() {
        for (int rate = 0; rate <= 3; rate++) {
            for (int count = 1; count <= 12; count++) {
                int tail = 7 + 8 * count;
                boolean before = false;
                boolean behind = false;
                for (int seed = 1; seed <= 127; seed += 5) {
                    String bits = sent(count, rate, seed).bits(0);
                    Check.same("the six", bits.substring(tail, tail + 6), "000000");
                    before |= bits.charAt(tail - 1) == '1';
                    behind |= bits.charAt(tail + 6) == '1';
                }
                Check.holds("the one before them is not always 0", before);
                Check.holds("the one behind them is not always 0", behind);
            }
        }
    }

    /** 13 + 8 * n bits are never a multiple of D: at least one is added, and at most D - 1. */
    private static void furtherZeros() {
        boolean one = false;
        boolean most = false;
        for (int rate = 0; rate <= 3; rate++) {
            for (int count = 1; count <= 12; count++) {
                int used = 13 + 8 * count;
                String bits = sent(count, rate, 101).bits(0);
                int further = bits.length() - used;
                Check.same("a multiple of D", bits.length() % IN_SYMBOL[rate], 0);
                Check.holds("no more than are needed", further > 0 && further < IN_SYMBOL[rate]);
                Check.same("they are scrambled", bits.substring(used), scrambler(101).substring(used, bits.length()));
                one |= further == 1;
                most |= further == IN_SYMBOL[rate] - 1;
            }
        }
        Check.holds("one was met", one);
        Check.holds("D - 1 were met", most);
        Check.same("one, rate 0", sent(2, 0, 1).bits(0).length(), 30);
        Check.same("D - 1, rate 0", sent(3, 0, 1).bits(0).length(), 42);
        Check.same("D - 1, rate 1", sent(3, 1, 1).bits(0).length(), 48);
        Check.same("one, rate 2", sent(5, 2, 1).bits(0).length(), 54);
        Check.same("D - 1, rate 2", sent(3, 2, 1).bits(0).length(), 54);
        Check.same("seven, rate 3", sent(2, 3, 1).bits(0).length(), 36);
        Check.same("D - 1, rate 3", sent(3, 3, 1).bits(0).length(), 72);
    }

    private static void noEcho() {
        Scene scene = sent(2, 1, 8);
        sameSamples("echo 0", scene.air(0, 0, 0).samples(true, 160), scene.samples(false, 160));
    }

    private static void echoBegins() {
        for (int echo = 1; echo <= 3; echo++) {
            Scene scene = sent(2, 1, 8);
            List<int[]> frame = scene.samples(false, 160);
            Check.same("none stand behind", scene.air(40, echo, 0).answer(), 200);
            List<int[]> air = scene.air(40, echo, 0).samples(true, 200);
            for (int k = 0; k < 160; k++) {
                int[] before = k < echo ? new int[2] : frame.get(k - echo);
                int i = frame.get(k)[0] + Math.floorDiv(before[0], 2);
                int q = frame.get(k)[1] + Math.floorDiv(before[1], 2);
                Check.same("echo " + echo + ", I of " + k, air.get(40 + k)[0], i);
                Check.same("echo " + echo + ", Q of " + k, air.get(40 + k)[1], q);
            }
        }
    }

    private static void turns() {
        Scene scene = sent(2, 1, 8);
        List<int[]> frame = scene.samples(false, 160);
        int[][] ii = {{1, 0}, {0, -1}, {-1, 0}, {0, 1}};
        int[][] qq = {{0, 1}, {1, 0}, {0, -1}, {-1, 0}};
        for (int turns = 0; turns <= 3; turns++) {
            List<int[]> air = scene.air(0, 0, turns).samples(true, 160);
            for (int k = 0; k < 160; k++) {
                int i = frame.get(k)[0];
                int q = frame.get(k)[1];
                Check.same("I of " + k, air.get(k)[0], i * ii[turns][0] + q * ii[turns][1]);
                Check.same("Q of " + k, air.get(k)[1], i * qq[turns][0] + q * qq[turns][1]);
            }
        }
        // The echo is halved before it is turned: half of -251 is -126, and 126 when turned twice.
        Scene twice = scene.air(0, 1, 2);
        Check.same("halved, then turned", twice.answer(x -> x.sample(true, 10, true)), (short) (126 - 362));
    }

    private static void leads() {
        for (int lead : new int[] {0, 1, 39, 40}) {
            Scene scene = sent(2, 1, 8).air(lead, 0, 0);
            Check.same("so many", scene.answer(), 160 + lead);
            List<int[]> due = Waves.behind(lead, sent(2, 1, 8).samples(false, 160));
            sameSamples("lead " + lead, scene.samples(true, 160 + lead), due);
        }
    }
}
