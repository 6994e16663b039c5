import java.util.ArrayList;
import java.util.LinkedHashMap;
import java.util.List;
import java.util.Map;

/** The sentences of the promises that name a boundary, each on its own, the number of its promise ahead. */
public final class PromisesEdgesTest {
    private static final String ARGUMENT = "throws IllegalArgumentException";
    private static final String STATE = "throws IllegalStateException";
    private static final String INDEX = "throws IndexOutOfBoundsException";
    private static final int LOWEST = Integer.MIN_VALUE;
    private static final int HIGHEST = Integer.MAX_VALUE;

    // By rate, for 1 .. 12 bytes.
    private static final int[][] SAMPLES = {
        {180, 200, 240, 260, 280, 320, 340, 360, 400, 420, 440, 480},
        {140, 160, 180, 180, 200, 220, 220, 240, 260, 260, 280, 300},
        {140, 140, 160, 160, 160, 180, 180, 200, 200, 220, 220, 240},
        {120, 120, 140, 140, 140, 140, 140, 160, 160, 160, 160, 180}
    };

    private PromisesEdgesTest() {
    }

    public static void main(String[] args) {
        Check.sentence("1: no bytes, no frame, nothing on the air, nothing received", PromisesEdgesTest::newObject);
        Check.sentence("2: the n lowest bytes, the highest of them first", PromisesEdgesTest::putBytes);
        Check.sentence("2: are added to those that are to be sent", PromisesEdgesTest::putAdds);
        Check.sentence("2: false if n is not 1 .. 8", PromisesEdgesTest::putOfWrongNumber);
        Check.sentence("2: or there would be more than 12", PromisesEdgesTest::putOfTooMany);
        Check.sentence("3: no bytes are to be sent any more", PromisesEdgesTest::wipe);
        Check.sentence("3: and nothing else changes", PromisesEdgesTest::wipeKeeps);
        Check.sentence("4: how many samples it has", PromisesEdgesTest::sendAnswers);
        Check.sentence("4: the bytes (and stay)", PromisesEdgesTest::sendKeeps);
        Check.sentence("4: IllegalArgumentException if rate is not 0 .. 3", PromisesEdgesTest::sendRate);
        Check.sentence("4: or seed not 1 .. 127", PromisesEdgesTest::sendSeed);
        Check.sentence("4: IllegalStateException if there are no bytes", PromisesEdgesTest::sendNothing);
        Check.sentence("5: the latest frame's data", PromisesEdgesTest::bitsOfLatest);
        Check.sentence("5: how many there are, if k is -1", PromisesEdgesTest::bitCounts);
        Check.sentence("5: NONE if there is no frame, stage or bit", PromisesEdgesTest::bitNone);
        Check.sentence("6: sample k of the frame", PromisesEdgesTest::samplesOfFrame);
        Check.sentence("6: (or of the air)", PromisesEdgesTest::samplesOfAir);
        Check.sentence("7: how many samples there are", PromisesEdgesTest::airAnswers);
        Check.sentence("7: in place of what was", PromisesEdgesTest::airReplaces);
        Check.sentence("7: IllegalArgumentException if lead is not 0 .. 40, ..", PromisesEdgesTest::airArguments);
        Check.sentence("7: IllegalStateException if there is no frame", PromisesEdgesTest::airWithoutFrame);
        Check.sentence("8: added to sample k of the air", PromisesEdgesTest::disturb);
        Check.sentence("8: false if there is no such sample", PromisesEdgesTest::disturbNone);
        Check.sentence("9: to each sample, the first one first, to its I and then to its Q", PromisesEdgesTest::stir);
        Check.sentence("9: x * 1103515245 + 12345 (as an int)", PromisesEdgesTest::stirWraps);
        Check.sentence("9: false if amount is not 0 .. 2000", PromisesEdgesTest::stirAmounts);
        Check.sentence("9: or nothing is on the air", PromisesEdgesTest::stirNothing);
        Check.sentence("10: the first n samples stay on the air alone", PromisesEdgesTest::cut);
        Check.sentence("10: false if there are not more than n (or n is below 0)", PromisesEdgesTest::cutNone);
        Check.sentence("11: how many bytes were found, or -2 .. -5", PromisesEdgesTest::receiveAnswers);
        Check.sentence("11: RECEIVING changes nothing but what was received", PromisesEdgesTest::receiveKeeps);
        Check.sentence("11: IllegalStateException if nothing is on the air", PromisesEdgesTest::receiveNothing);
        Check.sentence("12: byte k, 0 .. 255", PromisesEdgesTest::gotValues);
        Check.sentence("12: of those that the latest receive() found", PromisesEdgesTest::gotLatest);
        Check.sentence("12: NONE if there is none such", PromisesEdgesTest::gotNone);
        Check.sentence("13: what it did not come to is NONE", PromisesEdgesTest::heardByAnswer);
        Check.sentence("13: NONE if there was none, or for any other w", PromisesEdgesTest::heardNone);
        Check.sentence("13: of the latest receive()", PromisesEdgesTest::heardLatest);
        Check.sentence("14: 0 if the carrier is not used, there is none such", PromisesEdgesTest::learnedCarriers);
        Check.sentence("14: there was none, or its answer was -2", PromisesEdgesTest::learnedByAnswer);
        Check.end();
    }

    private static Scene sent(int count, int rate, int seed) {
        return Scene.NEW.putMany(count).send(rate, seed);
    }

    /** The bytes that are to be sent. */
    private static List<Object> bytesOf(Scene scene) {
        List<Object> bytes = new ArrayList<>();
        Map<String, Object> seen = scene.lookAtBytes();
        for (int k = 0; k < 13; k++) {
            Object one = seen.get("byte " + k);
            if (one instanceof Integer given && given != -1) {
                bytes.add(one);
            }
        }
        return bytes;
    }

    private static List<Object> many(int count) {
        List<Object> bytes = new ArrayList<>();
        for (int k = 0; k < count; k++) {
            bytes.add(17 + k);
        }
        return bytes;
    }

    private static void newObject() {
        Map<String, Object> seen = Scene.NEW.look();
        for (Map.Entry<String, Object> one : seen.entrySet()) {
            String name = one.getKey();
            Object due = name.startsWith("sample") ? INDEX : (Object) (name.startsWith("learned") ? 0 : -1);
            Check.same(name, one.getValue(), due);
        }
        Check.same("no bytes", bytesOf(Scene.NEW), List.of());
        Check.same("send", Scene.NEW.answer(x -> x.send(0, 1)), STATE);
        Check.same("air", Scene.NEW.answer(x -> x.air(0, 0, 0)), STATE);
        Check.same("disturb", Scene.NEW.answer(x -> x.disturb(0, (short) 0, (short) 0)), false);
        Check.same("stir", Scene.NEW.answer(x -> x.stir(0, 0)), false);
        Check.same("cut", Scene.NEW.answer(x -> x.cut(0)), false);
        Check.same("receive", Scene.NEW.answer(x -> x.receive()), STATE);
        // An object has nothing of another one.
        sent(12, 0, 1).air(40, 3, 3).receive().answer();
        Check.sameLook("beside another one", Scene.NEW.look(), seen);
        Check.same("room for twelve", bytesOf(Scene.NEW.putMany(12)), many(12));
    }

    private static void putBytes() {
        Integer[] all = {0x81, 0x02, 0xf3, 0x04, 0x75, 0x86, 0xff, 0x80};
        for (int n = 1; n <= 8; n++) {
            Scene scene = Scene.NEW.put(n, 0x8102f3047586ff80L);
            Check.same("put of " + n, scene.answer(), true);
            Check.same("put of " + n, bytesOf(scene), List.of(all).subList(8 - n, 8));
        }
        Check.same("the lowest long", bytesOf(Scene.NEW.put(8, Long.MIN_VALUE)), List.of(128, 0, 0, 0, 0, 0, 0, 0));
        Check.same("the highest long", bytesOf(Scene.NEW.put(8, Long.MAX_VALUE)),
            List.of(127, 255, 255, 255, 255, 255, 255, 255));
        Check.same("256", bytesOf(Scene.NEW.put(1, 256)), List.of(0));
        Check.same("255", bytesOf(Scene.NEW.put(1, 255)), List.of(255));
        Check.same("-1", bytesOf(Scene.NEW.put(1, -1)), List.of(255));
        Check.same("-256", bytesOf(Scene.NEW.put(1, -256)), List.of(0));
        Check.same("a fifth byte", bytesOf(Scene.NEW.put(4, 1L << 32)), List.of(0, 0, 0, 0));
        Check.same("a fifth byte", bytesOf(Scene.NEW.put(5, 1L << 32)), List.of(1, 0, 0, 0, 0));
        Check.same("an int's sign", bytesOf(Scene.NEW.put(5, 0x80000000L)), List.of(0, 128, 0, 0, 0));
    }

    private static void putAdds() {
        Scene scene = Scene.NEW.put(2, 0x0102).put(1, 3).put(3, 0x040506);
        Check.same("in their order", bytesOf(scene), List.of(1, 2, 3, 4, 5, 6));
        Check.same("behind send too", bytesOf(scene.send(0, 1).put(1, 7)), List.of(1, 2, 3, 4, 5, 6, 7));
        Check.same("0 is a byte", bytesOf(Scene.NEW.put(1, 0)), List.of(0));
        Scene framed = scene.send(0, 1).air(0, 0, 0).receive();
        Check.sameLook("nothing else changes", framed.put(1, 7).look(), framed.look());
    }

    private static void putOfWrongNumber() {
        for (int n : new int[] {LOWEST, LOWEST + 1, -8, -1, 0, 9, 10, 12, 13, 256, HIGHEST - 12, HIGHEST}) {
            for (int before : new int[] {0, 1, 11, 12}) {
                Scene scene = Scene.NEW.putMany(before);
                Check.same(n + " behind " + before, scene.answer(x -> x.put(n, -1)), false);
                Check.same(n + " behind " + before, bytesOf(scene.put(n, -1)), many(before));
            }
        }
        Check.same("1", Scene.NEW.put(1, 0).answer(), true);
        Check.same("8", Scene.NEW.put(8, 0).answer(), true);
    }

    private static void putOfTooMany() {
        for (int before = 0; before <= 12; before++) {
            for (int n = 1; n <= 8; n++) {
                Scene scene = Scene.NEW.putMany(before).put(n, 0);
                boolean due = before + n <= 12;
                Check.same(n + " behind " + before, scene.answer(), due);
                Check.same(n + " behind " + before, bytesOf(scene).size(), due ? before + n : before);
            }
        }
        // What is refused as too much may come in less.
        Check.same("8, then 5, then 4", Scene.NEW.put(8, 0).put(5, 0).put(4, 0).answer(), true);
    }

    private static void wipe() {
        for (int count = 0; count <= 12; count++) {
            Scene scene = Scene.NEW.putMany(count).wipe();
            Check.same("of " + count, scene.answer(x -> x.send(0, 1)), STATE);
            Check.same("of " + count, bytesOf(scene), List.of());
            Check.same("of " + count + ", then one", bytesOf(scene.put(1, 99)), List.of(99));
            Check.same("of " + count + ", then twelve", bytesOf(scene.putMany(12)), many(12));
            Check.same("of " + count + ", then thirteen", scene.putMany(12).put(1, 0).answer(), false);
        }
        Check.same("twice", bytesOf(Scene.NEW.putMany(3).wipe().wipe()), List.of());
    }

    private static void wipeKeeps() {
        Scene[] scenes = {
            Scene.NEW, Scene.NEW.putMany(12), sent(5, 2, 9), sent(5, 2, 9).air(3, 1, 1),
            sent(5, 2, 9).air(3, 1, 1).receive(), sent(5, 2, 9).air(3, 1, 1).receive().cut(0)
        };
        for (int k = 0; k < scenes.length; k++) {
            Check.sameLook("scene " + k, scenes[k].wipe().look(), scenes[k].look());
        }
        Check.same("the frame goes on the air", sent(5, 2, 9).wipe().air(1, 0, 0).answer(), 161);
        Check.same("and is received", sent(5, 2, 9).wipe().air(1, 0, 0).receive().answer(), 5);
    }

    private static void sendAnswers() {
        for (int rate = 0; rate <= 3; rate++) {
            for (int count = 1; count <= 12; count++) {
                Check.same("rate " + rate + ", " + count, sent(count, rate, 60).answer(), SAMPLES[rate][count - 1]);
            }
        }
    }

    private static void sendKeeps() {
        for (int count : new int[] {1, 8, 12}) {
            Scene scene = sent(count, 3, 1);
            Check.same(count + " bytes", bytesOf(scene), many(count));
            Check.same("again", scene.send(0, 127).answer(), SAMPLES[0][count - 1]);
            Check.sameLook("the frame is the same", scene.send(3, 1).lookAtFrame(), scene.lookAtFrame());
            Check.sameLook("the latest one is there", scene.send(0, 1).send(3, 1).lookAtFrame(), scene.lookAtFrame());
        }
        Scene full = sent(12, 3, 1).air(2, 1, 1).stir(50, 1).receive();
        Check.sameLook("the air stays", full.send(0, 9).lookAtAir(), full.lookAtAir());
        Check.sameLook("what was received stays", full.send(0, 9).lookAtReceived(), full.lookAtReceived());
        Check.same("no room for more", full.put(1, 0).answer(), false);
    }

    private static void sendRate() {
        for (int rate : new int[] {LOWEST, -4, -1, 4, 5, HIGHEST}) {
            Check.same("rate " + rate, Scene.NEW.putMany(1).answer(x -> x.send(rate, 1)), ARGUMENT);
            Check.same("rate " + rate + ", no bytes", Scene.NEW.answer(x -> x.send(rate, 1)), ARGUMENT);
            Scene scene = sent(2, 2, 2);
            Check.sameLook("the frame stays", scene.send(rate, 1).lookAtFrame(), scene.lookAtFrame());
        }
        Check.same("rate 0", sent(1, 0, 1).answer(), 180);
        Check.same("rate 3", sent(1, 3, 1).answer(), 120);
    }

    private static void sendSeed() {
        for (int seed : new int[] {LOWEST, -127, -1, 0, 128, 129, 255, 256 + 1, HIGHEST}) {
            Check.same("seed " + seed, Scene.NEW.putMany(1).answer(x -> x.send(0, seed)), ARGUMENT);
            Check.same("seed " + seed + ", no bytes", Scene.NEW.answer(x -> x.send(0, seed)), ARGUMENT);
            Scene scene = sent(2, 2, 2);
            Check.sameLook("the frame stays", scene.send(2, seed).lookAtFrame(), scene.lookAtFrame());
        }
        Check.same("both are wrong", Scene.NEW.putMany(1).answer(x -> x.send(4, 0)), ARGUMENT);
        Check.same("seed 1", sent(1, 0, 1).bits(0).substring(0, 7), "0001001");
        Check.same("seed 127", sent(1, 0, 127).bits(0).substring(0, 7), "0000111");
    }

    private static void sendNothing() {
        for (int rate = 0; rate <= 3; rate++) {
            int r = rate;
            Check.same("new", Scene.NEW.answer(x -> x.send(r, 1)), STATE);
            Check.same("wiped", sent(3, rate, 5).wipe().answer(x -> x.send(r, 127)), STATE);
            Check.same("refused bytes are none", Scene.NEW.put(0, 5).put(9, 5).answer(x -> x.send(r, 1)), STATE);
            Scene scene = sent(3, rate, 5).wipe();
            Check.sameLook("the frame stays", scene.send(r, 1).lookAtFrame(), scene.lookAtFrame());
        }
    }

    private static void bitsOfLatest() {
        Scene twelve = sent(12, 0, 1);
        Scene one = twelve.wipe().putMany(1);
        for (int rate = 0; rate <= 3; rate++) {
            Check.sameLook("a shorter one", one.send(rate, 9).lookAtFrame(), sent(1, rate, 9).lookAtFrame());
            Scene longer = sent(1, 3, 3).wipe().putMany(12).send(rate, 9);
            Check.sameLook("a longer one", longer.lookAtFrame(), sent(12, rate, 9).lookAtFrame());
        }
        Scene heard = twelve.air(0, 0, 0).stir(400, 1).receive();
        Check.sameLook("not of what was received", heard.lookAtFrame(), twelve.lookAtFrame());
    }

    private static void bitCounts() {
        int[] inSymbol = {6, 12, 18, 36};
        int[] codedInSymbol = {12, 24, 24, 48};
        for (int rate = 0; rate <= 3; rate++) {
            for (int count = 1; count <= 12; count++) {
                Scene scene = sent(count, rate, 127);
                int symbols = (SAMPLES[rate][count - 1] - 100) / 20;
                String what = "rate " + rate + ", " + count + " bytes, stage ";
                Check.same(what + 0, scene.answer(x -> x.bit(0, -1)), symbols * inSymbol[rate]);
                Check.same(what + 1, scene.answer(x -> x.bit(1, -1)), symbols * codedInSymbol[rate]);
                Check.same(what + 2, scene.answer(x -> x.bit(2, -1)), symbols * codedInSymbol[rate]);
            }
        }
    }

    private static void bitNone() {
        for (int stage : new int[] {LOWEST, -2, -1, 3, 4, HIGHEST}) {
            for (int k : new int[] {LOWEST, -2, -1, 0, 1, HIGHEST}) {
                Check.same("stage " + stage + ", " + k, sent(2, 1, 1).answer(x -> x.bit(stage, k)), -1);
                Check.same("no frame", Scene.NEW.answer(x -> x.bit(stage, k)), -1);
            }
        }
        for (int stage = 0; stage <= 2; stage++) {
            int s = stage;
            Check.same("no frame", Scene.NEW.answer(x -> x.bit(s, -1)), -1);
            Check.same("no frame, but bytes", Scene.NEW.putMany(3).answer(x -> x.bit(s, 0)), -1);
            for (int rate = 0; rate <= 3; rate++) {
                for (int count : new int[] {1, 12}) {
                    Scene scene = sent(count, rate, 90);
                    int last = (int) scene.answer(x -> x.bit(s, -1)) - 1;
                    bitEdges("rate " + rate + ", " + count + " bytes, stage " + s, scene, s, last);
                }
            }
        }
    }

    private static void bitEdges(String what, Scene scene, int stage, int last) {
        for (int k : new int[] {0, last}) {
            int bit = (int) scene.answer(x -> x.bit(stage, k));
            Check.holds(what + ", bit " + k, bit == 0 || bit == 1);
        }
        for (int k : new int[] {LOWEST, -3, -2, last + 1, last + 2, 1000, HIGHEST}) {
            Check.same(what + ", bit " + k, scene.answer(x -> x.bit(stage, k)), -1);
        }
    }

    private static void sampleEdges(String what, Scene scene, boolean air, int count) {
        for (boolean q : new boolean[] {false, true}) {
            for (int k : new int[] {0, count - 1}) {
                Check.holds(what + ", " + k, scene.answer(x -> x.sample(air, k, q)) instanceof Short);
            }
            for (int k : new int[] {LOWEST, -2, -1, count, count + 1, 600, HIGHEST}) {
                Check.same(what + ", " + k, scene.answer(x -> x.sample(air, k, q)), INDEX);
            }
        }
    }

    private static void samplesOfFrame() {
        for (boolean q : new boolean[] {false, true}) {
            for (int k : new int[] {LOWEST, -1, 0, 1, HIGHEST}) {
                Check.same("no frame", Scene.NEW.putMany(3).answer(x -> x.sample(false, k, q)), INDEX);
            }
        }
        sampleEdges("the shortest", sent(1, 3, 1), false, 120);
        sampleEdges("the longest", sent(12, 0, 1), false, 480);
        sampleEdges("a shorter one behind it", sent(12, 0, 1).wipe().putMany(1).send(3, 1), false, 120);
        sampleEdges("with a longer air", sent(1, 3, 1).air(40, 0, 0), false, 120);
        sampleEdges("with a cut air", sent(1, 3, 1).air(40, 0, 0).cut(1), false, 120);
        Scene disturbed = sent(1, 3, 1).air(0, 0, 0).disturb(8, 5, 5).stir(9, 9);
        Check.sameLook("what is done to the air", disturbed.lookAtFrame(), sent(1, 3, 1).lookAtFrame());
        Check.same("its I", sent(1, 3, 1).answer(x -> x.sample(false, 8, false)), (short) 1024);
        Check.same("its Q", sent(1, 3, 1).answer(x -> x.sample(false, 8, true)), (short) 0);
    }

    private static void samplesOfAir() {
        for (boolean q : new boolean[] {false, true}) {
            for (int k : new int[] {LOWEST, -1, 0, 1, HIGHEST}) {
                Check.same("new", Scene.NEW.answer(x -> x.sample(true, k, q)), INDEX);
                Check.same("a frame, but no air", sent(1, 3, 1).answer(x -> x.sample(true, k, q)), INDEX);
                Check.same("all is cut", sent(1, 3, 1).air(0, 0, 0).cut(0).answer(x -> x.sample(true, k, q)), INDEX);
            }
        }
        sampleEdges("the shortest", sent(1, 3, 1).air(0, 0, 0), true, 120);
        sampleEdges("the longest", sent(12, 0, 1).air(40, 3, 3), true, 520);
        sampleEdges("a shorter one behind it", sent(12, 0, 1).air(40, 3, 3).air(0, 0, 0), true, 480);
        sampleEdges("with a shorter frame", sent(12, 0, 1).air(40, 3, 3).wipe().putMany(1).send(3, 1), true, 520);
        sampleEdges("cut", sent(12, 0, 1).air(40, 3, 3).cut(7), true, 7);
        sampleEdges("cut to one", sent(12, 0, 1).air(40, 3, 3).cut(1), true, 1);
    }

    private static void airAnswers() {
        for (int rate = 0; rate <= 3; rate++) {
            for (int count : new int[] {1, 12}) {
                for (int lead : new int[] {0, 1, 40}) {
                    int due = SAMPLES[rate][count - 1] + lead;
                    Check.same("lead " + lead, sent(count, rate, 1).air(lead, 3, 3).answer(), due);
                    Check.same("lead " + lead, sent(count, rate, 1).air(lead, 0, 0).answer(), due);
                }
            }
        }
    }

    private static void airReplaces() {
        Scene spoilt = sent(3, 1, 1).air(40, 3, 1).stir(2000, 7).disturb(3, 32767, -32768).receive();
        Check.sameLook("in place", spoilt.air(0, 1, 2).lookAtAir(), sent(3, 1, 1).air(0, 1, 2).lookAtAir());
        Check.sameLook("behind a cut", spoilt.cut(5).air(0, 1, 2).lookAtAir(), sent(3, 1, 1).air(0, 1, 2).lookAtAir());
        Scene lead = sent(3, 1, 1).air(40, 0, 0);
        Check.sameLook("its own lead is silent", spoilt.air(40, 0, 0).lookAtAir(), lead.lookAtAir());
        Check.sameLook("the frame stays", spoilt.air(0, 3, 3).lookAtFrame(), sent(3, 1, 1).lookAtFrame());
        Check.sameLook("what was received stays", spoilt.air(0, 3, 3).lookAtReceived(), spoilt.lookAtReceived());
        Check.same("the bytes stay", bytesOf(spoilt.air(0, 0, 0)), many(3));
    }

    private static void airArguments() {
        int[][] wrong = {
            {LOWEST, 0, 0}, {-1, 0, 0}, {41, 0, 0}, {HIGHEST, 0, 0}, {0, LOWEST, 0}, {0, -1, 0}, {0, 4, 0},
            {0, HIGHEST, 0}, {0, 0, LOWEST}, {0, 0, -1}, {0, 0, 4}, {0, 0, HIGHEST}, {41, 4, 4}, {-1, -1, -1}
        };
        Scene scene = sent(3, 1, 1).air(2, 2, 2);
        Map<String, Object> look = scene.lookAtAir();
        for (int[] w : wrong) {
            String what = w[0] + ", " + w[1] + ", " + w[2];
            Check.same(what, scene.answer(x -> x.air(w[0], w[1], w[2])), ARGUMENT);
            Check.same(what + " without a frame", Scene.NEW.answer(x -> x.air(w[0], w[1], w[2])), ARGUMENT);
            Check.sameLook(what, scene.air(w[0], w[1], w[2]).lookAtAir(), look);
        }
        for (int[] good : new int[][] {{0, 0, 0}, {40, 0, 0}, {0, 3, 0}, {0, 0, 3}, {40, 3, 3}}) {
            Check.same("good ones", scene.answer(x -> x.air(good[0], good[1], good[2])), 180 + good[0]);
        }
    }

    private static void airWithoutFrame() {
        for (int[] good : new int[][] {{0, 0, 0}, {40, 3, 3}}) {
            Check.same("new", Scene.NEW.answer(x -> x.air(good[0], good[1], good[2])), STATE);
            Check.same("bytes", Scene.NEW.putMany(2).answer(x -> x.air(good[0], good[1], good[2])), STATE);
            Check.same("refused", Scene.NEW.putMany(2).send(4, 1).answer(x -> x.air(good[0], good[1], good[2])), STATE);
        }
    }

    private static void disturb() {
        Scene scene = sent(2, 1, 1).air(3, 0, 0);
        Map<String, Object> before = scene.lookAtAir();
        for (int k : new int[] {0, 2, 3, 162}) {
            Scene disturbed = scene.disturb(k, 11, -7);
            Check.same("disturb " + k, disturbed.answer(), true);
            Map<String, Object> due = new LinkedHashMap<>(before);
            String i = "sample(true, " + k + ", false)";
            String q = "sample(true, " + k + ", true)";
            due.put(i, (short) ((short) before.get(i) + 11));
            due.put(q, (short) ((short) before.get(q) - 7));
            Check.sameLook("sample " + k + " alone", disturbed.lookAtAir(), due);
        }
        Check.sameLook("by 0, 0", scene.disturb(5, 0, 0).lookAtAir(), before);
        Check.same("by 0, 0", scene.disturb(5, 0, 0).answer(), true);
    }

    private static void disturbNone() {
        Scene scene = sent(2, 1, 1).air(3, 0, 0);
        Map<String, Object> before = scene.lookAtAir();
        for (int k : new int[] {LOWEST, -2, -1, 163, 164, 519, 520, HIGHEST}) {
            Check.same("disturb " + k, scene.answer(x -> x.disturb(k, (short) 1, (short) 1)), false);
            Check.sameLook("disturb " + k, scene.disturb(k, 1, 1).lookAtAir(), before);
        }
        Check.same("the last one of the longest", sent(12, 0, 1).air(40, 0, 0).disturb(519, 1, 1).answer(), true);
        Check.same("behind it", sent(12, 0, 1).air(40, 0, 0).disturb(520, 1, 1).answer(), false);
        Check.same("behind a cut", scene.cut(100).disturb(100, 1, 1).answer(), false);
        Check.same("before a cut", scene.cut(100).disturb(99, 1, 1).answer(), true);
        Check.same("all is cut", scene.cut(0).disturb(0, 1, 1).answer(), false);
        Check.same("a frame, but no air", sent(2, 1, 1).disturb(0, 1, 1).answer(), false);
        Check.same("new", Scene.NEW.disturb(0, 1, 1).answer(), false);
    }

    private static void stirred(int amount, int seed) {
        Scene scene = sent(12, 0, 1).air(40, 0, 0);
        Scene stirred = scene.stir(amount, seed);
        Check.same("stir " + amount + ", " + seed, stirred.answer(), true);
        List<int[]> before = scene.samples(true, 520);
        List<int[]> behind = stirred.samples(true, 520);
        long x = seed & 0xffffffffL;
        for (int k = 0; k < 520; k++) {
            for (int part = 0; part < 2; part++) {
                x = (x * 1103515245L + 12345) & 0xffffffffL;
                long due = before.get(k)[part] + (x >> 16) % (2 * amount + 1) - amount;
                Check.same("stir " + amount + ", " + seed + ": " + k, (long) behind.get(k)[part], due);
            }
        }
    }

    private static void stir() {
        stirred(0, 1);
        stirred(1, 1);
        stirred(1999, 77);
        stirred(2000, 77);
        Scene scene = sent(2, 1, 1).air(3, 0, 0);
        Check.sameLook("by 0", scene.stir(0, 5).lookAtAir(), scene.lookAtAir());
        Check.sameLook("the frame stays", scene.stir(2000, 5).lookAtFrame(), scene.lookAtFrame());
        Scene twice = scene.stir(10, 3).stir(10, 3);
        List<int[]> base = scene.samples(true, 163);
        List<int[]> once = scene.stir(10, 3).samples(true, 163);
        List<int[]> again = twice.samples(true, 163);
        for (int k = 0; k < 163; k++) {
            Check.same("the seed begins anew", again.get(k)[0] - once.get(k)[0], once.get(k)[0] - base.get(k)[0]);
        }
        // Only what is on the air is stirred.
        Check.same("behind a cut", scene.cut(5).stir(9, 9).answer(x -> x.sample(true, 5, false)), INDEX);
    }

    private static void stirWraps() {
        for (int seed : new int[] {0, 2, 3, -1, LOWEST, LOWEST + 1, HIGHEST, 0x40000000, 0x10000, 0xffff}) {
            stirred(2000, seed);
        }
    }

    private static void stirAmounts() {
        Scene scene = sent(2, 1, 1).air(3, 0, 0);
        Map<String, Object> before = scene.lookAtAir();
        for (int amount : new int[] {LOWEST, -2000, -1, 2001, 2002, 32767, 0x40000000, HIGHEST}) {
            Check.same("by " + amount, scene.answer(x -> x.stir(amount, 1)), false);
            Check.sameLook("by " + amount, scene.stir(amount, 1).lookAtAir(), before);
        }
        for (int amount : new int[] {0, 1, 1999, 2000}) {
            Check.same("by " + amount, scene.answer(x -> x.stir(amount, 1)), true);
        }
    }

    private static void stirNothing() {
        for (int amount : new int[] {-1, 0, 1, 2000, 2001}) {
            Check.same("new", Scene.NEW.answer(x -> x.stir(amount, 1)), false);
            Check.same("a frame", sent(1, 1, 1).answer(x -> x.stir(amount, 1)), false);
            Check.same("all is cut", sent(1, 1, 1).air(0, 0, 0).cut(0).answer(x -> x.stir(amount, 1)), false);
        }
        Check.same("one sample", sent(1, 1, 1).air(0, 0, 0).cut(1).stir(1, 1).answer(), true);
    }

    private static void cut() {
        Scene scene = sent(12, 0, 1).air(40, 0, 0);
        List<int[]> before = scene.samples(true, 520);
        for (int n : new int[] {519, 518, 41, 40, 1, 0}) {
            Scene left = scene.cut(n);
            Check.same("cut " + n, left.answer(), true);
            List<int[]> behind = left.samples(true, n);
            for (int k = 0; k < n; k++) {
                Check.same("I of " + k, behind.get(k)[0], before.get(k)[0]);
                Check.same("Q of " + k, behind.get(k)[1], before.get(k)[1]);
            }
            Check.same("no more", left.answer(x -> x.sample(true, n, false)), INDEX);
            Check.same("not again", left.cut(n).answer(), false);
            Check.sameLook("the frame stays", left.lookAtFrame(), scene.lookAtFrame());
        }
        Scene received = scene.receive();
        Check.sameLook("what was received stays", received.cut(0).lookAtReceived(), received.lookAtReceived());
        Check.same("the bytes stay", bytesOf(scene.cut(0)), many(12));
        Check.same("again and again", scene.cut(500).cut(400).cut(3).cut(2).answer(), true);
    }

    private static void cutNone() {
        Scene scene = sent(2, 1, 1).air(3, 0, 0);
        Map<String, Object> before = scene.lookAtAir();
        for (int n : new int[] {LOWEST, -163, -1, 163, 164, 520, HIGHEST}) {
            Check.same("cut " + n, scene.answer(x -> x.cut(n)), false);
            Check.sameLook("cut " + n, scene.cut(n).lookAtAir(), before);
        }
        for (int n : new int[] {LOWEST, -1, 0, 1, HIGHEST}) {
            Check.same("new", Scene.NEW.answer(x -> x.cut(n)), false);
            Check.same("a frame", sent(2, 1, 1).answer(x -> x.cut(n)), false);
            Check.same("all is cut", scene.cut(0).answer(x -> x.cut(n)), false);
        }
    }

    private static Scene noStart() {
        return sent(2, 1, 1).air(0, 0, 0).cut(99).receive();
    }

    private static Scene badSignal() {
        // The number of 1s is odd.
        List<Integer> signal = Waves.bitsOf("100100100000000000");
        return Scene.onAir(Reference.frameOf(signal, Reference.dataOf(List.of(1, 2), 1, 1), 1)).receive();
    }

    private static Scene tooShort() {
        return sent(2, 1, 1).air(7, 0, 0).cut(166).receive();
    }

    private static Scene noScrambler() {
        // No scrambler has touched this data, so that its first seven bits are 0.
        List<Integer> data = Reference.dataOf(List.of(1, 2), 1, 0);
        return Scene.onAir(Reference.frameOf(Reference.signalOf(1, 2), data, 1)).receive();
    }

    private static Scene good() {
        return sent(2, 1, 93).air(7, 0, 0).receive();
    }

    private static void receiveAnswers() {
        Check.same("-2", noStart().answer(), -2);
        Check.same("-3", badSignal().answer(), -3);
        Check.same("-4", tooShort().answer(), -4);
        Check.same("-5", noScrambler().answer(), -5);
        Check.same("1", sent(1, 3, 1).air(0, 0, 0).receive().answer(), 1);
        Check.same("12", sent(12, 0, 1).air(40, 0, 0).receive().answer(), 12);
        Check.same("one sample", sent(1, 3, 1).air(0, 0, 0).cut(1).receive().answer(), -2);
        Check.same("again", good().receive().answer(), 2);
    }

    private static void receiveKeeps() {
        Scene[] scenes = {
            sent(2, 1, 1).air(0, 0, 0).cut(99), sent(2, 1, 1).air(7, 0, 0).cut(166), sent(12, 0, 5).air(3, 1, 1)
        };
        for (Scene scene : scenes) {
            Check.sameLook("the frame", scene.receive().lookAtFrame(), scene.lookAtFrame());
            Check.sameLook("the air", scene.receive().lookAtAir(), scene.lookAtAir());
            Check.same("the bytes", bytesOf(scene.receive()), bytesOf(scene));
            Check.sameLook("twice", scene.receive().receive().lookAtReceived(), scene.receive().lookAtReceived());
        }
    }

    private static void receiveNothing() {
        Check.same("new", Scene.NEW.answer(x -> x.receive()), STATE);
        Check.same("bytes", Scene.NEW.putMany(3).answer(x -> x.receive()), STATE);
        Check.same("a frame", sent(3, 1, 1).answer(x -> x.receive()), STATE);
        Check.same("refused air", sent(3, 1, 1).air(41, 0, 0).answer(x -> x.receive()), STATE);
        Check.same("all is cut", sent(3, 1, 1).air(0, 0, 0).cut(0).answer(x -> x.receive()), STATE);
        Scene cut = good().cut(0);
        Check.sameLook("what was received stays", cut.receive().lookAtReceived(), good().lookAtReceived());
    }

    private static void gotValues() {
        for (int rate = 0; rate <= 3; rate++) {
            Scene bytes = Scene.NEW.put(8, 0x00ff807f0180fe00L).put(4, 0xffffffffL);
            Scene scene = bytes.send(rate, 127).air(1, 0, 0).receive();
            int[] due = {0, 255, 128, 127, 1, 128, 254, 0, 255, 255, 255, 255};
            for (int k = 0; k < 12; k++) {
                int asked = k;
                Check.same("rate " + rate + ", byte " + k, scene.answer(x -> x.got(asked)), due[k]);
            }
        }
        for (int value = 0; value < 256; value++) {
            Scene scene = Scene.NEW.put(1, value).send(3, 1 + value % 127).air(0, 0, 0).receive();
            Check.same("byte " + value, scene.answer(x -> x.got(0)), value);
        }
    }

    private static void gotLatest() {
        Scene two = sent(12, 3, 1).air(0, 0, 0).receive().wipe().put(1, 200).send(1, 1).air(0, 0, 0);
        Check.same("until the next receive()", two.answer(x -> x.got(11)), 28);
        Check.same("of the latest", two.receive().answer(x -> x.got(0)), 200);
        Check.same("nothing of the one before", two.receive().answer(x -> x.got(1)), -1);
        Check.same("found nothing", two.receive().cut(120).receive().answer(x -> x.got(0)), -1);
        Check.same("not what is to be sent", two.receive().put(1, 3).answer(x -> x.got(1)), -1);
    }

    private static void gotNone() {
        for (int k : new int[] {LOWEST, -1, 2, 3, 11, 12, HIGHEST}) {
            Check.same("byte " + k, good().answer(x -> x.got(k)), -1);
        }
        for (int k : new int[] {LOWEST, -1, 12, 13, HIGHEST}) {
            Check.same("byte " + k + " of twelve", sent(12, 3, 1).air(0, 0, 0).receive().answer(x -> x.got(k)), -1);
        }
        for (int k = -1; k <= 12; k++) {
            int asked = k;
            Check.same("new", Scene.NEW.answer(x -> x.got(asked)), -1);
            Check.same("not received", sent(2, 1, 1).air(0, 0, 0).answer(x -> x.got(asked)), -1);
            for (Scene none : new Scene[] {noStart(), badSignal(), tooShort(), noScrambler()}) {
                Check.same("nothing found", none.answer(x -> x.got(asked)), -1);
            }
        }
    }

    private static void heardBy(String what, Scene scene, Object... due) {
        Map<String, Object> seen = scene.lookAtReceived();
        for (int w = 0; w < due.length; w++) {
            Check.same(what + ", heard " + w, seen.get("heard(" + w + ")"), due[w]);
        }
    }

    private static void heardByAnswer() {
        heardBy("-2", noStart(), -2, -1, -1, -1, -1, -1);
        heardBy("-3", badSignal(), -3, 0, -1, -1, -1, -1);
        heardBy("-4", tooShort(), -4, 7, 1, 2, -1, -1);
        heardBy("-5", noScrambler(), -5, 0, 1, 2, 0);
        heardBy("2", good(), 2, 7, 1, 2, 54);
        Check.holds("-5: metric", (int) noScrambler().answer(x -> x.heard(5)) > 70000);
        Check.holds("2: metric", (int) good().answer(x -> x.heard(5)) > 70000);
        // Rate 0 is heard as 0, not as NONE.
        heardBy("rate 0", sent(12, 0, 127).air(40, 0, 0).receive(), 12, 40, 0, 12, 7);
        heardBy("rate 3", sent(1, 3, 1).air(0, 0, 0).receive(), 1, 0, 3, 1, 9);
        // All that there is of 60 coded bits, each 2047.
        Scene shared = Scene.NEW.put(2, 26729).send(0, 93).air(5, 0, 0).receive();
        Check.same("greatest metric", shared.answer(x -> x.heard(5)), 122820);
    }

    private static void heardNone() {
        for (int w : new int[] {LOWEST, -2, -1, 6, 7, HIGHEST}) {
            Check.same("heard " + w, good().answer(x -> x.heard(w)), -1);
            Check.same("heard " + w, Scene.NEW.answer(x -> x.heard(w)), -1);
        }
        for (int w = 0; w <= 5; w++) {
            int asked = w;
            Check.same("new", Scene.NEW.answer(x -> x.heard(asked)), -1);
            Check.same("not received", sent(2, 1, 1).air(0, 0, 0).answer(x -> x.heard(asked)), -1);
            Check.same("refused", sent(2, 1, 1).air(0, 0, 0).cut(0).receive().answer(x -> x.heard(asked)), -1);
        }
    }

    private static void heardLatest() {
        heardBy("-4 behind 2", good().cut(166).receive(), -4, 7, 1, 2, -1, -1);
        heardBy("-2 behind 2", good().cut(99).receive(), -2, -1, -1, -1, -1, -1);
        heardBy("2 behind -2", noStart().air(9, 0, 0).receive(), 2, 9, 1, 2);
        heardBy("1 behind 2", good().wipe().put(1, 0).send(3, 93).air(0, 0, 0).receive(), 1, 0, 3, 1, 54);
        heardBy("until the next one", good().wipe().put(1, 0).send(3, 93).air(0, 0, 0), 2, 7, 1, 2, 54);
    }

    private static void learnedCarriers() {
        for (int c : new int[] {LOWEST, -16, -1, 0, 8, 16, 17, HIGHEST}) {
            Check.same("carrier " + c, good().answer(x -> x.learned(c, false)), 0);
            Check.same("carrier " + c, good().answer(x -> x.learned(c, true)), 0);
        }
        int[][] turned = {{2048, 0}, {0, 2048}, {-2048, 0}, {0, -2048}};
        for (int turns = 0; turns <= 3; turns++) {
            Scene scene = sent(2, 1, 93).air(7, 0, turns).receive();
            for (int c = 1; c <= 15; c++) {
                if (c != 8) {
                    int asked = c;
                    int real = (int) scene.answer(x -> x.learned(asked, false));
                    int imaginary = (int) scene.answer(x -> x.learned(asked, true));
                    Check.holds("carrier " + c + " is " + real + ", " + imaginary,
                        Math.abs(real - turned[turns][0]) <= 4 && Math.abs(imaginary - turned[turns][1]) <= 4);
                }
            }
        }
    }

    private static void learnedByAnswer() {
        for (int c = 0; c <= 15; c++) {
            int asked = c;
            boolean used = c != 0 && c != 8;
            Scene[] nones = {Scene.NEW, sent(2, 1, 1).air(0, 0, 0), noStart(), good().cut(99).receive()};
            for (Scene none : nones) {
                Check.same("carrier " + c, none.answer(x -> x.learned(asked, false)), 0);
                Check.same("carrier " + c, none.answer(x -> x.learned(asked, true)), 0);
            }
            for (Scene some : new Scene[] {badSignal(), tooShort(), noScrambler(), good()}) {
                int real = (int) some.answer(x -> x.learned(asked, false));
                Check.holds("carrier " + c + " is " + real, used ? Math.abs(real - 2048) <= 4 : real == 0);
            }
        }
        Scene echoed = sent(2, 1, 93).air(0, 3, 1).receive();
        Check.sameLook("the latest one", good().air(0, 3, 1).receive().lookAtReceived(), echoed.lookAtReceived());
    }
}
