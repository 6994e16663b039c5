import java.util.ArrayList;
import java.util.LinkedHashMap;
import java.util.List;
import java.util.Map;

/** Samples in a row, as tests need them on the air, what they are made of and what is received from them. */
final class Waves {
    private Waves() {
    }

    static List<int[]> silence(int count) {
        List<int[]> wave = new ArrayList<>();
        for (int k = 0; k < count; k++) {
            wave.add(new int[2]);
        }
        return wave;
    }

    /** Silence but for one sample. */
    static List<int[]> spike(int count, int at, int i, int q) {
        List<int[]> wave = silence(count);
        wave.set(at, new int[] {i, q});
        return wave;
    }

    static List<int[]> frame(int rate, int seed, List<Integer> bytes) {
        List<Integer> data = Reference.dataOf(bytes, rate, seed);
        return Reference.frameOf(Reference.signalOf(rate, bytes.size()), data, rate);
    }

    static List<int[]> behind(int lead, List<int[]> wave) {
        List<int[]> all = silence(lead);
        all.addAll(wave);
        return all;
    }

    /** Each sample from one on, and up to another, times a number and divided by a number. */
    static List<int[]> scaled(List<int[]> wave, int from, int to, int times, int by) {
        List<int[]> all = new ArrayList<>(wave);
        for (int k = from; k < to; k++) {
            int i = Reference.saturated(wave.get(k)[0] * times / by);
            int q = Reference.saturated(wave.get(k)[1] * times / by);
            all.set(k, new int[] {i, q});
        }
        return all;
    }

    static List<int[]> silenced(List<int[]> wave, int from, int to) {
        return scaled(wave, from, to, 0, 1);
    }

    static List<int[]> changed(List<int[]> wave, int at, int i, int q) {
        List<int[]> all = new ArrayList<>(wave);
        int newI = Reference.saturated(wave.get(at)[0] + i);
        int newQ = Reference.saturated(wave.get(at)[1] + q);
        all.set(at, new int[] {newI, newQ});
        return all;
    }

    static List<Integer> bitsOf(String text) {
        List<Integer> bits = new ArrayList<>();
        for (char c : text.toCharArray()) {
            bits.add(c - '0');
        }
        return bits;
    }

    /** The level of two of the four bits on a carrier. */
    static int level(String bits) {
        return switch (bits) {
            case "00" -> -972;
            case "01" -> -324;
            case "11" -> 324;
            default -> 972;
        };
    }

    /** What the program receives from the wave, all that can be asked of it. */
    static Map<String, Object> received(List<int[]> wave) {
        return Scene.onAir(wave).receive().lookAtReceived();
    }

    /** The same questions, put to the reference. */
    static Map<String, Object> due(List<int[]> wave) {
        Reference it = Reference.receivedFrom(wave);
        Map<String, Object> all = new LinkedHashMap<>();
        for (int k = -1; k <= 12; k++) {
            all.put("got(" + k + ")", it.got(k));
        }
        for (int w = -1; w <= 6; w++) {
            all.put("heard(" + w + ")", it.heard(w));
        }
        for (int c = -1; c <= 16; c++) {
            all.put("learned(" + c + ", false)", it.learned(c, false));
            all.put("learned(" + c + ", true)", it.learned(c, true));
        }
        return all;
    }

    static void checkReceived(String what, List<int[]> wave) {
        Check.sameLook(what, received(wave), due(wave));
    }
}
