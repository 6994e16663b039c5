import java.util.LinkedHashMap;
import java.util.List;
import java.util.Map;

/**
 * 'A call that answers false or NONE, or throws, changes nothing': every such call in every kind of
 * state, with a look at all that can be asked before it and behind it.
 */
public final class RefusedCallsTest {
    private static final String ARGUMENT = "throws IllegalArgumentException";
    private static final String STATE = "throws IllegalStateException";
    private static final String INDEX = "throws IndexOutOfBoundsException";
    private static final int LOWEST = Integer.MIN_VALUE;
    private static final int HIGHEST = Integer.MAX_VALUE;

    private final String name;
    private final Scene scene;
    private final Map<String, Object> look;
    private final Map<String, Object> bytes;

    private RefusedCallsTest(String name, Scene scene) {
        this.name = name;
        this.scene = scene;
        look = scene.look();
        bytes = scene.lookAtBytes();
    }

    public static void main(String[] args) {
        Scene two = Scene.NEW.put(2, 0x80ff);
        Scene full = Scene.NEW.put(8, 0x0123456789abcdefL).put(4, -2);
        Scene sent = two.send(1, 93);
        Scene aired = sent.air(5, 2, 1).stir(60, 4);
        Scene received = aired.receive();

        new RefusedCallsTest("a new object", Scene.NEW).withoutBytes().withoutFrame().withoutAir(0).unreceived();
        new RefusedCallsTest("two bytes", two).room(10).withoutFrame().withoutAir(0).unreceived();
        new RefusedCallsTest("twelve bytes", full).room(0).withoutFrame().withoutAir(0).unreceived();
        new RefusedCallsTest("a frame", sent).room(10).frame(160, 36, 72).withoutAir(160).unreceived();
        new RefusedCallsTest("on the air", aired).room(10).frame(160, 36, 72).onAir(165).unreceived();
        new RefusedCallsTest("received", received).room(10).frame(160, 36, 72).onAir(165).received(2);
        new RefusedCallsTest("wiped", received.wipe()).withoutBytes().frame(160, 36, 72).onAir(165).received(2);
        new RefusedCallsTest("cut to one", received.cut(1)).room(10).frame(160, 36, 72).onAir(1).received(2);
        new RefusedCallsTest("all is cut", received.cut(0)).room(10).frame(160, 36, 72).withoutAir(165).received(2);
        new RefusedCallsTest("no start", aired.cut(99).receive()).room(10).onAir(99).received(0);
        new RefusedCallsTest("cut behind SIGNAL", aired.cut(164).receive()).room(10).onAir(164).received(0);
        longest(full);
        Check.end();
    }

    private static void longest(Scene full) {
        Scene longest = full.send(0, 127).air(40, 3, 3).receive();
        Check.same("the longest frame", full.send(0, 127).answer(), 480);
        Check.same("the longest on the air", full.send(0, 127).air(40, 3, 3).answer(), 520);
        new RefusedCallsTest("the longest", longest).room(0).frame(480, 114, 228).onAir(520).received(12);
    }

    private void refused(String call, Object due, Scene.Call it) {
        String what = name + ", " + call;
        Check.same(what, scene.answer(it), due);
        Check.sameLook(what + " changes", scene.then(it).look(), look);
        Check.sameLook(what + " changes", scene.then(it).lookAtBytes(), bytes);
    }

    private void refusedAnywhere() {
        for (int n : new int[] {LOWEST, -1, 0, 9, 13, HIGHEST}) {
            refused("put of " + n, false, x -> x.put(n, -1));
        }
        for (int rate : new int[] {LOWEST, -1, 4, HIGHEST}) {
            refused("send with rate " + rate, ARGUMENT, x -> x.send(rate, 1));
        }
        for (int seed : new int[] {LOWEST, -1, 0, 128, HIGHEST}) {
            refused("send with seed " + seed, ARGUMENT, x -> x.send(3, seed));
        }
        for (int stage : new int[] {LOWEST, -1, 3, HIGHEST}) {
            refused("bit of stage " + stage, -1, x -> x.bit(stage, 0));
            refused("how many of stage " + stage, -1, x -> x.bit(stage, -1));
        }
        for (int k : new int[] {LOWEST, -2, 240, HIGHEST}) {
            refused("bit " + k, -1, x -> x.bit(1, k));
        }
        refusedSamples();
        refusedAir();
        for (int amount : new int[] {LOWEST, -1, 2001, HIGHEST}) {
            refused("stir by " + amount, false, x -> x.stir(amount, 1));
        }
        for (int n : new int[] {LOWEST, -1, 520, 521, HIGHEST}) {
            refused("cut to " + n, false, x -> x.cut(n));
        }
        for (int k : new int[] {LOWEST, -1, 12, HIGHEST}) {
            refused("got of " + k, -1, x -> x.got(k));
        }
        for (int w : new int[] {LOWEST, -1, 6, HIGHEST}) {
            refused("heard of " + w, -1, x -> x.heard(w));
        }
        for (int c : new int[] {LOWEST, -1, 0, 8, 16, HIGHEST}) {
            refused("learned of " + c, 0, x -> x.learned(c, true));
        }
    }

    private void refusedSamples() {
        for (int k : new int[] {LOWEST, -1, 480, HIGHEST}) {
            refused("sample " + k + " of the frame", INDEX, x -> x.sample(false, k, true));
        }
        for (int k : new int[] {LOWEST, -1, 520, HIGHEST}) {
            refused("sample " + k + " of the air", INDEX, x -> x.sample(true, k, false));
            refused("disturb " + k, false, x -> x.disturb(k, (short) 1, (short) 1));
        }
    }

    private void refusedAir() {
        for (int lead : new int[] {LOWEST, -1, 41, HIGHEST}) {
            refused("air with lead " + lead, ARGUMENT, x -> x.air(lead, 0, 0));
        }
        for (int other : new int[] {LOWEST, -1, 4, HIGHEST}) {
            refused("air with echo " + other, ARGUMENT, x -> x.air(0, other, 0));
            refused("air with turns " + other, ARGUMENT, x -> x.air(0, 0, other));
        }
    }

    private RefusedCallsTest withoutBytes() {
        refusedAnywhere();
        for (int rate = 0; rate <= 3; rate++) {
            int r = rate;
            refused("send of nothing", STATE, x -> x.send(r, 127));
        }
        return this;
    }

    /** There is room for so many bytes more. */
    private RefusedCallsTest room(int left) {
        refusedAnywhere();
        for (int n = left + 1; n <= 8; n++) {
            int many = n;
            refused("put of " + n, false, x -> x.put(many, -1));
        }
        return this;
    }

    private RefusedCallsTest withoutFrame() {
        for (int stage = 0; stage <= 2; stage++) {
            int s = stage;
            refused("bit 0 of stage " + stage, -1, x -> x.bit(s, 0));
            refused("how many of stage " + stage, -1, x -> x.bit(s, -1));
        }
        refused("sample 0 of the frame", INDEX, x -> x.sample(false, 0, false));
        refused("air", STATE, x -> x.air(0, 0, 0));
        refused("air", STATE, x -> x.air(40, 3, 3));
        return this;
    }

    private RefusedCallsTest frame(int samples, int bits, int coded) {
        refused("sample behind the frame", INDEX, x -> x.sample(false, samples, false));
        refused("bit behind the scrambled ones", -1, x -> x.bit(0, bits));
        refused("bit behind the coded ones", -1, x -> x.bit(1, coded));
        refused("bit behind the interleaved ones", -1, x -> x.bit(2, coded));
        return this;
    }

    /** So many samples were on the air once, or are in the frame. */
    private RefusedCallsTest withoutAir(int once) {
        for (int k : List.of(0, 1, once)) {
            refused("sample " + k + " of the air", INDEX, x -> x.sample(true, k, true));
            refused("disturb " + k, false, x -> x.disturb(k, (short) 5, (short) 5));
            refused("cut to " + k, false, x -> x.cut(k));
        }
        refused("stir by 0", false, x -> x.stir(0, 1));
        refused("stir by 2000", false, x -> x.stir(2000, 1));
        refused("receive", STATE, x -> x.receive());
        return this;
    }

    private RefusedCallsTest onAir(int samples) {
        refused("sample behind the air", INDEX, x -> x.sample(true, samples, true));
        refused("disturb behind the air", false, x -> x.disturb(samples, (short) 5, (short) 5));
        refused("cut to all that there are", false, x -> x.cut(samples));
        refused("cut to one more", false, x -> x.cut(samples + 1));
        return this;
    }

    private void unreceived() {
        received(0);
        for (int w = 0; w <= 5; w++) {
            int asked = w;
            refused("heard of " + w, -1, x -> x.heard(asked));
        }
        for (int c = 0; c <= 15; c++) {
            int asked = c;
            refused("learned of " + c, 0, x -> x.learned(asked, false));
        }
        questions();
    }

    private void received(int bytesFound) {
        refused("got behind the bytes", -1, x -> x.got(bytesFound));
        questions();
    }

    /** What is asked and answered changes nothing either. */
    private void questions() {
        Map<String, Scene.Call> all = new LinkedHashMap<>();
        all.put("how many bits", x -> x.bit(0, -1));
        all.put("bit", x -> x.bit(2, 1));
        all.put("sample of the frame", x -> x.sample(false, 1, true));
        all.put("sample of the air", x -> x.sample(true, 0, true));
        all.put("got", x -> x.got(0));
        all.put("heard", x -> x.heard(5));
        all.put("learned", x -> x.learned(1, false));
        for (Map.Entry<String, Scene.Call> question : all.entrySet()) {
            refused(question.getKey(), scene.answer(question.getValue()), question.getValue());
        }
    }
}
