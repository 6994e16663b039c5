import java.util.Random;
import java.util.TreeMap;

/** Long mixed runs of calls, each answer compared with the reference's. */
public final class RandomRunsTest {
    private static final int RUNS = 400;
    private static final int[] EDGES = {
        Integer.MIN_VALUE, -2000000000, -2, -1, 0, 1, 2, 3, 4, 8, 9, 12, 13, 15, 16, 40, 41, 127, 128,
        2000, 2001, 2000000000, Integer.MAX_VALUE
    };

    private final Random random;
    private final String run;
    private final CarrierLink link = new CarrierLink();
    private final Reference due = new Reference();
    private final TreeMap<Object, Integer> answers;
    private int left = 512;

    private RandomRunsTest(int number, TreeMap<Object, Integer> answers) {
        random = new Random(number);
        run = "random run " + number + ", ";
        this.answers = answers;
    }

    public static void main(String[] args) {
        int runs = args.length > 0 ? Integer.parseInt(args[0]) : RUNS;
        TreeMap<Object, Integer> answers = new TreeMap<>();
        for (int k = 0; k < runs && !Check.failed(); k++) {
            new RandomRunsTest(k, answers).go();
        }
        System.out.println("answers of receive(): " + answers);
        for (int answer = -5; answer <= 12; answer++) {
            if (answer != -1 && answer != 0) {
                Check.holds("receive() came to " + answer, answers.containsKey(answer));
            }
        }
        Check.end();
    }

    private void go() {
        boolean wild = random.nextInt(4) == 0;
        while (left > 0 && !Check.failed()) {
            if (wild) {
                wildCall();
            } else {
                story();
            }
        }
    }

    private int upTo(int most) {
        return random.nextInt(most + 1);
    }

    private int any() {
        return random.nextInt(3) == 0 ? random.nextInt() : EDGES[random.nextInt(EDGES.length)];
    }

    private int mostly(int from, int to) {
        return random.nextInt(8) == 0 ? any() : from + upTo(to - from);
    }

    private Object compare(String call, Check.Call got, Check.Call want) {
        Object answer = Check.answerOf(got);
        if (left > 0) {
            Check.same(run + call, answer, Check.answerOf(want));
            left--;
        }
        return answer;
    }

    private void put(int n, long bytes) {
        compare("put(" + n + ", " + bytes + ")", () -> link.put(n, bytes), () -> due.put(n, bytes));
    }

    private void wipe() {
        link.wipe();
        due.wipe();
        left--;
    }

    private void send(int rate, int seed) {
        compare("send(" + rate + ", " + seed + ")", () -> link.send(rate, seed), () -> due.send(rate, seed));
    }

    private void bit(int stage, int k) {
        compare("bit(" + stage + ", " + k + ")", () -> link.bit(stage, k), () -> due.bit(stage, k));
    }

    private void sample(boolean air, int k, boolean q) {
        compare("sample(" + air + ", " + k + ", " + q + ")", () -> link.sample(air, k, q), () -> due.sample(air, k, q));
    }

    private void air(int lead, int echo, int turns) {
        compare("air(" + lead + ", " + echo + ", " + turns + ")",
            () -> link.air(lead, echo, turns), () -> due.air(lead, echo, turns));
    }

    private void disturb(int k, int i, int q) {
        compare("disturb(" + k + ", " + i + ", " + q + ")",
            () -> link.disturb(k, (short) i, (short) q), () -> due.disturb(k, (short) i, (short) q));
    }

    private void stir(int amount, int seed) {
        compare("stir(" + amount + ", " + seed + ")", () -> link.stir(amount, seed), () -> due.stir(amount, seed));
    }

    private void cut(int n) {
        compare("cut(" + n + ")", () -> link.cut(n), () -> due.cut(n));
    }

    private void receive() {
        if (left > 0) {
            Object answer = compare("receive()", () -> link.receive(), () -> due.receive());
            if (answer instanceof Integer) {
                answers.merge(answer, 1, Integer::sum);
            }
        }
    }

    private void got(int k) {
        compare("got(" + k + ")", () -> link.got(k), () -> due.got(k));
    }

    private void heard(int w) {
        compare("heard(" + w + ")", () -> link.heard(w), () -> due.heard(w));
    }

    private void learned(int carrier, boolean imaginary) {
        compare("learned(" + carrier + ", " + imaginary + ")",
            () -> link.learned(carrier, imaginary), () -> due.learned(carrier, imaginary));
    }

    private void wildCall() {
        switch (random.nextInt(13)) {
            case 0 -> put(mostly(1, 8), random.nextLong());
            case 1 -> wipe();
            case 2 -> send(mostly(0, 3), mostly(1, 127));
            case 3 -> bit(mostly(0, 2), mostly(-1, 245));
            case 4 -> sample(random.nextBoolean(), mostly(0, 520), random.nextBoolean());
            case 5 -> air(mostly(0, 40), mostly(0, 3), mostly(0, 3));
            case 6 -> disturb(mostly(0, 300), random.nextInt(), random.nextInt());
            case 7 -> stir(mostly(0, 2000), random.nextInt());
            case 8 -> cut(random.nextInt(4) == 0 ? mostly(-1, 1) : mostly(90, 520));
            case 9 -> receive();
            case 10 -> got(mostly(-1, 13));
            case 11 -> heard(mostly(-1, 6));
            default -> learned(mostly(-1, 16), random.nextBoolean());
        }
    }

    /** A frame goes over the air and is looked at on all its way. */
    private void story() {
        if (random.nextInt(3) != 0) {
            wipe();
        }
        int puts = upTo(3);
        for (int k = 0; k < puts; k++) {
            put(mostly(1, 8), random.nextLong());
        }
        send(mostly(0, 3), mostly(1, 127));
        for (int k = 0; k < 12; k++) {
            bit(k % 3, k < 3 ? -1 : upTo(245));
            sample(false, upTo(485), random.nextBoolean());
        }
        air(mostly(0, 40), mostly(0, 3), mostly(0, 3));
        spoil();
        for (int k = 0; k < 8; k++) {
            sample(true, upTo(525), random.nextBoolean());
        }
        receive();
        lookAtReceived();
    }

    private void spoil() {
        int kind = random.nextInt(7);
        if (kind == 1 || kind == 2) {
            stir(upTo(700), random.nextInt());
        }
        if (kind == 2 || kind == 3) {
            int times = upTo(10);
            for (int k = 0; k < times; k++) {
                int most = random.nextBoolean() ? 32767 : 3000;
                disturb(upTo(300), random.nextInt(2 * most) - most, random.nextInt(2 * most) - most);
            }
        }
        if (kind == 4) {
            // Behind the training and SIGNAL, so that wrong data meets good rates.
            for (int k = 0; k < 20; k++) {
                disturb(140 + upTo(60), random.nextInt(8001) - 4000, random.nextInt(8001) - 4000);
            }
        }
        if (kind == 6 && random.nextInt(4) == 0) {
            // As loud as can be, so that sums come to their ends.
            int most = 1 + upTo(32767);
            for (int k = 0; k < 180; k++) {
                disturb(k, random.nextBoolean() ? most : -most, random.nextBoolean() ? most : -most);
            }
        }
        if (kind == 5) {
            cut(80 + upTo(200));
        }
    }

    private void lookAtReceived() {
        for (int k = -1; k <= 12; k++) {
            got(k);
        }
        for (int w = -1; w <= 6; w++) {
            heard(w);
        }
        for (int c = -1; c <= 16; c++) {
            learned(c, random.nextBoolean());
        }
    }
}
