import java.util.ArrayList;
import java.util.LinkedHashMap;
import java.util.List;
import java.util.Map;

/**
 * Calls that bring a new object into a state. They are made anew on as many objects as a test needs,
 * because one object is promised to answer 512 calls and no more.
 */
final class Scene {
    interface Call {
        Object on(CarrierLink x);
    }

    static final int MOST_CALLS = 512;
    static final Scene NEW = new Scene(List.of());

    private final List<Call> calls;

    private Scene(List<Call> calls) {
        this.calls = calls;
    }

    Scene then(Call call) {
        List<Call> more = new ArrayList<>(calls);
        more.add(call);
        return new Scene(more);
    }

    Scene put(int n, long bytes) {
        return then(x -> x.put(n, bytes));
    }

    /** So many bytes, 17 and what follows it. */
    Scene putMany(int count) {
        Scene scene = this;
        for (int k = 0; k < count; k++) {
            scene = scene.put(1, 17 + k);
        }
        return scene;
    }

    Scene wipe() {
        return then(x -> {
            x.wipe();
            return "void";
        });
    }

    Scene send(int rate, int seed) {
        return then(x -> x.send(rate, seed));
    }

    Scene air(int lead, int echo, int turns) {
        return then(x -> x.air(lead, echo, turns));
    }

    Scene disturb(int k, int i, int q) {
        return then(x -> x.disturb(k, (short) i, (short) q));
    }

    Scene stir(int amount, int seed) {
        return then(x -> x.stir(amount, seed));
    }

    Scene cut(int n) {
        return then(x -> x.cut(n));
    }

    Scene receive() {
        return then(x -> x.receive());
    }

    /** The air holds these samples and no others. */
    static Scene onAir(List<int[]> wave) {
        List<int[]> was = Reference.frameOf(Reference.signalOf(0, 12), Reference.dataOf(twelveZeros(), 0, 1), 0);
        Scene scene = NEW.put(8, 0).put(4, 0).send(0, 1).air(0, 0, 0);
        if (wave.size() < was.size()) {
            scene = scene.cut(wave.size());
        }
        for (int k = 0; k < wave.size(); k++) {
            scene = scene.change(k, wave.get(k)[0] - was.get(k)[0], wave.get(k)[1] - was.get(k)[1]);
        }
        return scene;
    }

    private static List<Integer> twelveZeros() {
        List<Integer> zeros = new ArrayList<>();
        for (int k = 0; k < 12; k++) {
            zeros.add(0);
        }
        return zeros;
    }

    /** A change can be greater than a short. */
    private Scene change(int k, int i, int q) {
        if (i == 0 && q == 0) {
            return this;
        }
        Scene half = disturb(k, i / 2, q / 2);
        return Math.max(Math.abs(i), Math.abs(q)) > 32767 ? half.disturb(k, i - i / 2, q - q / 2) : disturb(k, i, q);
    }

    /** What the call answers as the next one. */
    Object answer(Call call) {
        Check.holds("no more than 512 calls", calls.size() < MOST_CALLS);
        CarrierLink x = play();
        return Check.answerOf(() -> call.on(x));
    }

    /** What the last call answered. */
    Object answer() {
        int last = calls.size() - 1;
        return new Scene(calls.subList(0, last)).answer(calls.get(last));
    }

    private CarrierLink play() {
        CarrierLink x = new CarrierLink();
        for (Call call : calls) {
            Check.answerOf(() -> call.on(x));
        }
        return x;
    }

    /** What the calls answer, none of which may change anything. */
    List<Object> answers(List<Call> questions) {
        Check.holds("no more than 512 calls", calls.size() < MOST_CALLS);
        List<Object> all = new ArrayList<>();
        CarrierLink x = play();
        int used = calls.size();
        for (Call question : questions) {
            if (used == MOST_CALLS) {
                x = play();
                used = calls.size();
            }
            CarrierLink asked = x;
            all.add(Check.answerOf(() -> question.on(asked)));
            used++;
        }
        return all;
    }

    /** The frame's samples, or the air's, from the first one on. */
    List<int[]> samples(boolean air, int count) {
        List<Call> questions = new ArrayList<>();
        for (int k = 0; k < count; k++) {
            int asked = k;
            questions.add(x -> x.sample(air, asked, false));
            questions.add(x -> x.sample(air, asked, true));
        }
        List<Object> answers = answers(questions);
        List<int[]> samples = new ArrayList<>();
        for (int k = 0; k < count; k++) {
            samples.add(new int[] {number(answers.get(2 * k)), number(answers.get(2 * k + 1))});
        }
        return samples;
    }

    private static int number(Object answer) {
        Check.holds("a number: " + answer, answer instanceof Short);
        return answer instanceof Short given ? given : 0;
    }

    /** All bits of a stage, or an empty text if there are none. */
    String bits(int stage) {
        List<Call> questions = new ArrayList<>();
        int count = (int) answer(x -> x.bit(stage, -1));
        for (int k = 0; k < count; k++) {
            int asked = k;
            questions.add(x -> x.bit(stage, asked));
        }
        StringBuilder text = new StringBuilder();
        for (Object bit : answers(questions)) {
            text.append(bit);
        }
        return text.toString();
    }

    /** All that can be asked, but for the bytes that are to be sent. */
    Map<String, Object> look() {
        Map<String, Call> questions = new LinkedHashMap<>();
        questions.putAll(aboutFrame());
        questions.putAll(aboutAir());
        questions.putAll(aboutReceived());
        return ask(questions);
    }

    Map<String, Object> lookAtFrame() {
        return ask(aboutFrame());
    }

    Map<String, Object> lookAtAir() {
        return ask(aboutAir());
    }

    Map<String, Object> lookAtReceived() {
        return ask(aboutReceived());
    }

    /** The bytes that are to be sent can only be seen by sending them. */
    Map<String, Object> lookAtBytes() {
        Map<String, Object> seen = new LinkedHashMap<>();
        seen.put("send(0, 1)", send(0, 1).answer());
        Scene received = send(0, 1).air(0, 0, 0).receive();
        boolean none = seen.get("send(0, 1)") instanceof String;
        for (int k = 0; k <= 12; k++) {
            int asked = k;
            seen.put("byte " + k, none ? "none" : received.answer(x -> x.got(asked)));
        }
        return seen;
    }

    private Map<String, Object> ask(Map<String, Call> questions) {
        List<Object> answers = answers(new ArrayList<>(questions.values()));
        Map<String, Object> seen = new LinkedHashMap<>();
        int next = 0;
        for (String name : questions.keySet()) {
            seen.put(name, answers.get(next));
            next++;
        }
        return seen;
    }

    private static Map<String, Call> aboutFrame() {
        Map<String, Call> questions = new LinkedHashMap<>();
        for (int stage = -1; stage <= 3; stage++) {
            for (int k = -2; k <= 240; k++) {
                int s = stage;
                int asked = k;
                questions.put("bit(" + s + ", " + k + ")", x -> x.bit(s, asked));
            }
        }
        questions.putAll(aboutSamples(false, 480));
        return questions;
    }

    private static Map<String, Call> aboutAir() {
        return aboutSamples(true, 520);
    }

    private static Map<String, Call> aboutSamples(boolean air, int most) {
        Map<String, Call> questions = new LinkedHashMap<>();
        for (int k = -1; k <= most; k++) {
            int asked = k;
            String name = "sample(" + air + ", " + k + ", ";
            questions.put(name + "false)", x -> x.sample(air, asked, false));
            questions.put(name + "true)", x -> x.sample(air, asked, true));
        }
        return questions;
    }

    private static Map<String, Call> aboutReceived() {
        Map<String, Call> questions = new LinkedHashMap<>();
        for (int k = -1; k <= 12; k++) {
            int asked = k;
            questions.put("got(" + k + ")", x -> x.got(asked));
        }
        for (int w = -1; w <= 6; w++) {
            int asked = w;
            questions.put("heard(" + w + ")", x -> x.heard(asked));
        }
        for (int c = -1; c <= 16; c++) {
            int asked = c;
            questions.put("learned(" + c + ", false)", x -> x.learned(asked, false));
            questions.put("learned(" + c + ", true)", x -> x.learned(asked, true));
        }
        return questions;
    }
}
