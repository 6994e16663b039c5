import java.util.ArrayList;
import java.util.List;
import java.util.Map;

/** The sentences of 'Terms' about receiving that name a boundary, each on its own. */
public final class ReceivingEdgesTest {
    private static final int[] IN_SYMBOL = {6, 12, 18, 36};

    private ReceivingEdgesTest() {
    }

    public static void main(String[] args) {
        Check.sentence("d goes from 0 to 40", ReceivingEdgesTest::startsLookedAt);
        Check.sentence("as long as d + 100 is not above the number of samples", ReceivingEdgesTest::startsWithRoom);
        Check.sentence("sums over i = 0 .. 31", ReceivingEdgesTest::samplesOfPower);
        Check.sentence("R >> 8, J >> 8", ReceivingEdgesTest::powerRoundsDown);
        Check.sentence("the POWER (as longs)", ReceivingEdgesTest::loudStarts);
        Check.sentence("START is the first d with the greatest", ReceivingEdgesTest::firstGreatest);
        Check.sentence("-2 if that is below 100000000", ReceivingEdgesTest::leastPower);
        Check.sentence("or there is no d", ReceivingEdgesTest::noStart);
        Check.sentence("samples START + 8 .. and START + 24 ..", ReceivingEdgesTest::samplesOfTraining);
        Check.sentence("H of a used carrier", ReceivingEdgesTest::usedCarriers);
        Check.sentence("TRANSFORM: (.. + 8192) >> 14", ReceivingEdgesTest::transformRounds);
        Check.sentence("their first four samples left out", ReceivingEdgesTest::samplesOfSymbols);
        Check.sentence("Z, W, E (as longs)", ReceivingEdgesTest::loudSymbols);
        Check.sentence("each >> 10", ReceivingEdgesTest::weakSymbols);
        Check.sentence("and then -2047 or 2047 if beyond", ReceivingEdgesTest::mostSoft);
        Check.sentence("E less the amount of Z.real", ReceivingEdgesTest::betweenLevels);
        Check.sentence("0 stands for each bit that was left out", ReceivingEdgesTest::leftOut);
        Check.sentence("0 for state 0 and -1000000 for the others", ReceivingEdgesTest::firstMetrics);
        Check.sentence("for j = 0 if they are the same", ReceivingEdgesTest::samePaths);
        Check.sentence("the first state with the greatest metric", ReceivingEdgesTest::firstState);
        Check.sentence("-3 if its 18 bits are not as said", ReceivingEdgesTest::wrongSignal);
        Check.sentence("or the number of bytes is 0 or above 12", ReceivingEdgesTest::wrongNumber);
        Check.sentence("-4 if there are fewer samples than its symbols need", ReceivingEdgesTest::tooFew);
        Check.sentence("-5 if that is 0", ReceivingEdgesTest::noScrambler);
        Check.sentence("their number is the answer", ReceivingEdgesTest::allLengths);
        Check.end();
    }

    private static void heard(String what, List<int[]> wave, int answer, int start) {
        Map<String, Object> seen = Waves.received(wave);
        Check.same(what + ": answer", seen.get("heard(0)"), answer);
        Check.same(what + ": START", seen.get("heard(1)"), start);
        Waves.checkReceived(what, wave);
    }

    private static List<int[]> twoBytes(int rate) {
        return Waves.frame(rate, 93, List.of(104, 105));
    }

    /**
     * One sample alone, 2560, 0, is loudest where it meets T(10) or T(6), which are as great: at
     * i = 26, 22, 10 and 6. The next greatest are T(7), T(9) and then T(3), T(13).
     */
    private static List<int[]> spike(int count, int at) {
        return Waves.spike(count, at, 2560, 0);
    }

    private static void startsLookedAt() {
        heard("d = 0", spike(180, 34), -3, 0);
        heard("d = 1", spike(180, 35), -3, 1);
        heard("d = 39", spike(180, 73), -3, 39);
        heard("d = 40", spike(180, 74), -3, 40);
        // d = 41 would be loudest; i = 29 is the next one, with T(13).
        heard("d = 41", spike(180, 75), -3, 38);
        heard("a frame at 40", Waves.behind(40, twoBytes(1)), 2, 40);
        // Sixteen samples too early the training is met with three quarters of it.
        heard("a frame at 41", Waves.behind(41, twoBytes(1)), -3, 25);
        heard("a frame at 0", twoBytes(1), 2, 0);
    }

    private static void startsWithRoom() {
        heard("a hundred, d = 0", spike(100, 34), -3, 0);
        // d = 1 is not looked at, and d = 0 is too weak.
        heard("a hundred, d = 1", spike(100, 35), -2, -1);
        heard("a hundred and one, d = 1", spike(101, 35), -3, 1);
        heard("139, d = 40", spike(139, 74), -3, 37);
        heard("140, d = 40", spike(140, 74), -3, 40);
        heard("141, d = 40", spike(141, 74), -3, 40);
        List<int[]> late = Waves.behind(40, twoBytes(1));
        heard("SIGNAL is whole", late.subList(0, 140), -4, 40);
        heard("SIGNAL is not", late.subList(0, 139), -3, 24);
    }

    private static void samplesOfPower() {
        // With a hundred samples there is d = 0 alone.
        heard("before i = 0", Waves.spike(100, 7, 32767, 32767), -2, -1);
        heard("i = 0", Waves.spike(100, 8, 32767, 32767), -3, 0);
        heard("i = 31", Waves.spike(100, 39, 32767, 32767), -3, 0);
        heard("behind i = 31", Waves.spike(100, 40, 32767, 32767), -2, -1);
        // T(8) is 0, 0.
        heard("i = 8", Waves.spike(100, 16, 32767, 32767), -2, -1);
        heard("i = 15", Waves.spike(100, 23, 32767, 32767), -3, 0);
        heard("i = 16", Waves.spike(100, 24, 32767, 32767), -3, 0);
        heard("i = 24", Waves.spike(100, 32, 32767, 32767), -2, -1);
    }

    /** Samples 8 and 9 meet T(0) and T(1) where d is 0: 1024, 0 and 196, -251. */
    private static List<int[]> whisper(int i, int q, int nextI, int nextQ) {
        List<int[]> wave = Waves.spike(180, 8, i, q);
        wave.set(9, new int[] {nextI, nextQ});
        return wave;
    }

    private static void powerRoundsDown() {
        // 1, 0 at T(1) adds 196 to R and 251 to J, which is less than 256.
        heard("R above -10000 * 256 by 196", whisper(-2500, 0, 1, 0), -3, 0);
        heard("R above 10000 * 256 by 196", whisper(2500, 0, 1, 0), -3, 0);
        heard("J above -10000 * 256 by 251", whisper(0, -2500, 1, 0), -3, 0);
        heard("J above 10000 * 256 by 251", whisper(0, 2500, 1, 0), -3, 0);
        // -1, 0 takes as much: 9999 is left, and -1 of the other one.
        heard("R below 10000 * 256 by 196", whisper(2500, 0, -1, 0), -2, -1);
        heard("J below 10000 * 256 by 251", whisper(0, 2500, -1, 0), -2, -1);
        heard("R below -10000 * 256 by 196", whisper(-2500, 0, -1, 0), -3, 0);
        // 1, -1 adds 447 to R and 55 to J: that is -9999.
        heard("R above -10000 * 256 by 447", whisper(-2500, 0, 1, -1), -2, -1);
        int[] one = oneShort();
        heard("R below 10000 * 256 by 1", whisper(one[0], one[1], one[2], one[3]), -2, -1);
        heard("J below 10000 * 256 by 1", whisper(-one[1], one[0], -one[3], one[2]), -2, -1);
        heard("R above -10000 * 256 by 1", whisper(-one[0], -one[1], -one[2], -one[3]), -3, 0);
    }

    /** Samples 8 and 9, with which R is 10000 * 256 - 1 and J not far from 0. */
    private static int[] oneShort() {
        for (int nextI = -100; nextI <= 100; nextI++) {
            for (int nextQ = -100; nextQ <= 100; nextQ++) {
                int left = 2559999 - 196 * nextI + 251 * nextQ;
                int q = -(196 * nextQ + 251 * nextI) / 1024;
                if (left % 1024 == 0) {
                    return new int[] {left / 1024, q, nextI, nextQ};
                }
            }
        }
        Check.holds("there are such samples", false);
        return new int[4];
    }

    private static void loudStarts() {
        for (int times = 2; times <= 20; times++) {
            List<int[]> wave = Waves.behind(11, twoBytes(0));
            List<int[]> loud = Waves.scaled(Waves.scaled(wave, 11, 51, times, 1), 51, 211, Math.min(times, 7), 1);
            heard("training times " + times, loud, 2, 11);
        }
        List<int[]> all = new ArrayList<>();
        for (int k = 0; k < 180; k++) {
            all.add(new int[] {k % 2 == 0 ? 32767 : -32768, k % 3 == 0 ? -32768 : 32767});
        }
        Waves.checkReceived("as loud as can be", all);
        for (int p = 8; p < 180; p++) {
            Waves.checkReceived("one loud sample at " + p, Waves.spike(180, p, -32768, 32767));
        }
    }

    private static void firstGreatest() {
        // i = 26, 22, 10, 6: d, d + 4, d + 16 and d + 20 are as good as each other.
        heard("the first of four", spike(180, 34), -3, 0);
        heard("the first of three", spike(180, 50), -3, 16);
        heard("the first of two", spike(180, 54), -3, 20);
        // d = 0 has i = 25 with T(9): weaker than the four, though it comes first.
        heard("the greatest is not the first", spike(180, 33), -3, 3);
        List<int[]> three = new ArrayList<>(twoBytes(0).subList(0, 40));
        three.addAll(twoBytes(0).subList(8, 24));
        three.addAll(Waves.silence(124));
        Check.same("T three times", Waves.received(three).get("heard(1)"), 0);
        // A better one far behind a good one.
        List<int[]> two = Waves.scaled(Waves.behind(30, twoBytes(0)), 30, 230, 3, 2);
        for (int k = 0; k < 30; k++) {
            two.set(k, twoBytes(0).get(k));
        }
        heard("a better one behind", two, 2, 30);
    }

    private static void leastPower() {
        heard("10000^2", whisper(2500, 0, 0, 0), -3, 0);
        heard("10000^2 of J", whisper(0, 2500, 0, 0), -3, 0);
        heard("6000^2 + 8000^2", whisper(-1500, 2000, 0, 0), -3, 0);
        heard("9996^2", whisper(2499, 0, 0, 0), -2, -1);
        // 9909^2 + 1346^2 is 99999997, the greatest sum of two squares below 100000000.
        heard("99999997", withSums(9909, 1346), -2, -1);
        heard("99999997 turned", withSums(-1346, 9909), -2, -1);
        // The next sums of two squares, and 60^2 + 80^2 a hundred times.
        heard("99999994", withSums(9115, -4113), -2, -1);
        heard("100000000", withSums(-6000, -8000), -3, 0);
        heard("100000000", withSums(2800, 9600), -3, 0);
        heard("a little more", withSums(9910, 1346), -3, 0);
        heard("silence", Waves.silence(180), -2, -1);
    }

    /** A wave whose R >> 8 and J >> 8 are just these where d is 0. */
    private static List<int[]> withSums(int r, int j) {
        for (int nextI = -20; nextI <= 20; nextI++) {
            for (int nextQ = -20; nextQ <= 20; nextQ++) {
                int moreR = 196 * nextI - 251 * nextQ;
                int moreJ = 196 * nextQ + 251 * nextI;
                int i = Math.floorDiv(256 * r + 255 - moreR, 1024);
                int q = Math.floorDiv(256 * j + 255 - moreJ, 1024);
                if (1024 * i + moreR >> 8 == r && 1024 * q + moreJ >> 8 == j) {
                    return whisper(i, q, nextI, nextQ);
                }
            }
        }
        Check.holds("there is such a wave", false);
        return Waves.silence(180);
    }

    private static void noStart() {
        List<int[]> loud = Waves.scaled(twoBytes(0), 0, 200, 5, 1);
        heard("a hundred", loud.subList(0, 100), -4, 0);
        heard("99", loud.subList(0, 99), -2, -1);
        heard("one", loud.subList(0, 1), -2, -1);
    }

    private static void samplesOfTraining() {
        List<int[]> wave = Waves.behind(3, twoBytes(0));
        Map<String, Object> clean = Waves.received(wave);
        for (int k = 0; k < 60; k++) {
            List<int[]> other = Waves.changed(wave, 3 + k, 300, -200);
            Map<String, Object> seen = Waves.received(other);
            Check.same("START, with " + k, seen.get("heard(1)"), 3);
            boolean same = true;
            for (int c = 0; c < 16; c++) {
                String real = "learned(" + c + ", false)";
                String imaginary = "learned(" + c + ", true)";
                same &= seen.get(real).equals(clean.get(real)) && seen.get(imaginary).equals(clean.get(imaginary));
            }
            Check.same("sample START + " + k + " is left out", same, k < 8 || k >= 40);
            Waves.checkReceived("sample START + " + k, other);
        }
    }

    private static void usedCarriers() {
        // A wave that is all on carrier 0, and one on carrier 8, over a whole frame.
        for (int turn : new int[] {1, -1}) {
            List<int[]> wave = twoBytes(0);
            for (int k = 0; k < 200; k++) {
                int sign = k % 2 == 0 ? 1 : turn;
                wave = Waves.changed(wave, k, 900 * sign, -700 * sign);
            }
            Map<String, Object> seen = Waves.received(wave);
            for (int c : new int[] {-1, 0, 8, 16}) {
                Check.same("real part of " + c, seen.get("learned(" + c + ", false)"), 0);
                Check.same("imaginary part of " + c, seen.get("learned(" + c + ", true)"), 0);
            }
            for (int c : new int[] {1, 7, 9, 15}) {
                Check.holds("real part of " + c, (int) seen.get("learned(" + c + ", false)") > 2000);
            }
            Check.same("it is received", seen.get("heard(0)"), 2);
            Waves.checkReceived("on unused carriers", wave);
        }
    }

    /**
     * A sample alone at START + 9 is halved twice on its way, and then met by C(1), 15137, where
     * carrier 1 is; a hundred samples leave no other START.
     */
    private static void transformed(int quarter) {
        int due = Math.floorDiv(quarter * 15137 + 8192, 16384);
        Map<String, Object> real = Waves.received(Waves.spike(100, 9, 4 * quarter, 0));
        Check.same("START", real.get("heard(1)"), 0);
        Check.same("real part of carrier 1", real.get("learned(1, false)"), due);
        Check.same("real part of carrier 9", real.get("learned(9, false)"), -due);
        Map<String, Object> imaginary = Waves.received(Waves.spike(100, 9, 0, 4 * quarter));
        Check.same("imaginary part of carrier 1", imaginary.get("learned(1, true)"), due);
        Check.same("imaginary part of carrier 9", imaginary.get("learned(9, true)"), -due);
    }

    private static void transformRounds() {
        Check.same("5919 * 15137 is 8191 above a multiple", 5919 * 15137 % 16384, 8191);
        Check.same("-8192 * 15137 is 8192 above one", Math.floorMod(-8192 * 15137, 16384), 8192);
        transformed(5919);
        transformed(-8192);
        for (int quarter = 8100; quarter < 8192; quarter++) {
            transformed(quarter);
            transformed(-quarter);
        }
        // Both halvings round down: -32767 becomes -16384, then -8192.
        Map<String, Object> odd = Waves.received(Waves.spike(100, 9, -32767, 0));
        Check.same("halved twice", odd.get("learned(1, false)"), Math.floorDiv(-8192 * 15137 + 8192, 16384));
    }

    private static void samplesOfSymbols() {
        List<int[]> wave = twoBytes(0);
        Map<String, Object> clean = Waves.received(wave);
        for (int k = 40; k < 200; k++) {
            boolean prefix = (k - 40) % 20 < 4;
            // SIGNAL's samples are in reach of the search for START: there a change must stay small.
            int by = k < 80 ? 1500 : 6000;
            Map<String, Object> seen = Waves.received(Waves.changed(wave, k, by, by));
            if (prefix) {
                Check.sameLook("sample " + k, seen, clean);
            } else if (k >= 100) {
                Check.holds("sample " + k, (int) seen.get("heard(5)") < (int) clean.get("heard(5)"));
            }
        }
        List<int[]> noPrefix = wave;
        for (int from = 40; from < 200; from += 20) {
            noPrefix = Waves.silenced(noPrefix, from, from + 4);
        }
        Check.sameLook("no prefix at all", Waves.received(noPrefix), clean);
        for (int from = 40; from < 100; from += 20) {
            List<int[]> turned = Waves.scaled(wave, from + 4, from + 20, -1, 1);
            Check.same("SIGNAL turned at " + from, Waves.received(turned).get("heard(0)"), -3);
        }
    }

    private static void loudSymbols() {
        for (int rate = 0; rate <= 3; rate++) {
            for (int times : new int[] {2, 4, 7}) {
                List<int[]> wave = twoBytes(rate);
                List<int[]> loud = Waves.scaled(wave, 0, wave.size(), times, 1);
                heard("rate " + rate + " times " + times, loud, 2, 0);
                List<int[]> training = Waves.scaled(wave, 0, 40, 20, 1);
                Waves.checkReceived("H times 20 with rate " + rate, training);
                Waves.checkReceived("and Y", Waves.scaled(training, 40, wave.size(), times, 1));
            }
        }
        // H is beyond 46340, whose square is the last one that fits an int; real or imaginary, by turns.
        for (int times = 24; times <= 80; times += 8) {
            for (int turns = 0; turns <= 3; turns++) {
                List<int[]> training = Waves.scaled(twoBytes(3), 0, 40, times, 1);
                List<int[]> loud = turned(Waves.scaled(training, 40, 120, 7, 1), turns);
                Map<String, Object> seen = Waves.received(loud);
                int h = (int) seen.get("learned(9, " + (turns % 2 == 1) + ")");
                Check.holds("H is " + h, times < 40 || Math.abs(h) > 46340);
                Check.same("rate 3 is heard, times " + times, seen.get("heard(2)"), 3);
                Waves.checkReceived("times " + times + ", turns " + turns, loud);
            }
        }
        // All power on one carrier: Z is some 5,000,000,000.
        for (int carrier : new int[] {1, 7, 9, 15}) {
            for (int rate = 0; rate <= 3; rate++) {
                List<int[]> wave = Waves.scaled(twoBytes(rate), 0, 40, 20, 1);
                for (int k = 100; k < wave.size(); k++) {
                    double angle = 2 * Math.PI * carrier * (k - 104) / 16;
                    int sign = k % 40 < 20 ? 1 : -1;
                    int i = (int) (32767 * Math.cos(angle)) * sign;
                    wave.set(k, new int[] {i, (int) (32767 * Math.sin(angle)) * sign});
                }
                Waves.checkReceived("all on carrier " + carrier + " with rate " + rate, wave);
            }
        }
    }

    private static List<int[]> turned(List<int[]> wave, int turns) {
        List<int[]> all = wave;
        for (int t = 0; t < turns; t++) {
            List<int[]> next = new ArrayList<>();
            for (int[] one : all) {
                next.add(new int[] {Reference.saturated(-one[1]), one[0]});
            }
            all = next;
        }
        return all;
    }

    private static void weakSymbols() {
        for (int rate = 0; rate <= 3; rate++) {
            // A tenth of the power's root is enough for START.
            List<int[]> wave = Waves.frame(rate, 5, List.of(1, 254, 0, 255));
            List<int[]> weak = Waves.scaled(wave, 0, wave.size(), 1, 10);
            Check.same("rate " + rate, Waves.received(weak).get("heard(0)"), 4);
            Waves.checkReceived("rate " + rate, weak);
            for (int by = 2; by < 400; by = by * 3 / 2 + 1) {
                Waves.checkReceived("divided by " + by, Waves.scaled(weak, 100, wave.size(), 1, by));
            }
        }
        // Each soft value of -1 .. -1023 is -1 before it is used: silence but for one small sample.
        List<int[]> silent = Waves.silenced(Waves.scaled(twoBytes(0), 0, 100, 1, 10), 100, 200);
        Check.same("SIGNAL is heard", Waves.received(silent).get("heard(3)"), 2);
        for (int i = -40; i <= 40; i++) {
            Waves.checkReceived("one small sample " + i, Waves.changed(silent, 104, i, -i));
        }
    }

    private static void mostSoft() {
        for (int rate = 0; rate <= 3; rate++) {
            List<int[]> wave = Waves.frame(rate, 71, List.of(0, 255, 0x5a));
            List<int[]> loud = Waves.scaled(wave, 0, wave.size(), 7, 1);
            int coded = Reference.coded(Reference.dataOf(List.of(0, 255, 0x5a), rate, 71), rate >= 2).size();
            Check.same("all are beyond, rate " + rate, Waves.received(loud).get("heard(5)"), 2047 * coded);
            for (int part = 900; part <= 1100; part += 20) {
                Waves.checkReceived("some are beyond", Waves.scaled(wave, 100, wave.size(), part, 1000));
            }
        }
    }

    private static void betweenLevels() {
        // The data's levels against those that were learned, from none to far beyond the highest.
        List<int[]> wave = Waves.frame(3, 33, List.of(9, 8, 7, 6, 5, 4));
        for (int part = 0; part <= 3000; part += 60) {
            Waves.checkReceived("level " + part, Waves.scaled(wave, 100, wave.size(), part, 1000));
        }
        Check.same("as they are", Waves.received(wave).get("heard(0)"), 6);
        int metric = (int) Waves.received(wave).get("heard(5)");
        Check.holds("a metric of " + metric, metric > 600 * 96 && metric < 1400 * 96);
    }

    private static void leftOut() {
        for (int rate = 2; rate <= 3; rate++) {
            List<int[]> wave = Waves.frame(rate, 64, List.of(1, 2, 3));
            List<int[]> loud = Waves.scaled(wave, 0, wave.size(), 7, 1);
            Map<String, Object> seen = Waves.received(loud);
            Check.same("only those that are there count", seen.get("heard(5)"), 2047 * (rate == 2 ? 72 : 96));
            Check.same("bytes", List.of(seen.get("got(0)"), seen.get("got(1)"), seen.get("got(2)")), List.of(1, 2, 3));
        }
    }

    private static void firstMetrics() {
        for (int rate = 0; rate <= 3; rate++) {
            List<Integer> data = Reference.dataOf(List.of(200, 100), rate, 64);
            for (int past = 1; past < 64; past++) {
                List<Integer> longer = new ArrayList<>();
                for (int k = 0; k < 6; k++) {
                    longer.add(past >> k & 1);
                }
                longer.addAll(data);
                // Six bits are twice three for the coder, so that the same places are left out.
                List<Integer> all = Reference.coded(longer, rate >= 2);
                List<Integer> coded = all.subList(rate >= 2 ? 8 : 12, all.size());
                List<int[]> wave = Reference.frameOfCoded(Reference.signalOf(rate, 2), coded, rate);
                List<int[]> loud = Waves.scaled(wave, 0, wave.size(), 7, 1);
                int metric = (int) Waves.received(loud).get("heard(5)");
                Check.holds("the past " + past + " costs something", metric < 2047 * coded.size());
                Waves.checkReceived("rate " + rate + ", past " + past, loud);
            }
        }
    }

    private static void samePaths() {
        for (int rate = 0; rate <= 3; rate++) {
            List<int[]> wave = Waves.frame(rate, 127, List.of(255, 255, 255, 255));
            List<int[]> silent = Waves.silenced(wave, 100, wave.size());
            // With four bits on a carrier silence is no 0: it is inside of the inner levels.
            if (rate < 3) {
                Map<String, Object> seen = Waves.received(silent);
                Check.same("silent data", seen.get("heard(0)"), -5);
                Check.same("silent data: state", seen.get("heard(4)"), 0);
                Check.same("silent data: metric", seen.get("heard(5)"), 0);
            }
            for (int from = 100; from < wave.size(); from += 20) {
                Waves.checkReceived("silent at " + from, Waves.silenced(wave, from, from + 20));
                Waves.checkReceived("silent from " + from, Waves.silenced(wave, from, wave.size()));
                Waves.checkReceived("silent before " + from, Waves.silenced(wave, 100, from));
            }
        }
    }

    private static void firstState() {
        for (int rate = 0; rate <= 3; rate++) {
            List<int[]> wave = Waves.frame(rate, 12, List.of(1, 2, 3, 4, 5));
            // All states are as good at the end if the last six bits of SIGNAL are not heard.
            List<int[]> unheard = Waves.silenced(wave, 80, 100);
            heard("the last of SIGNAL, rate " + rate, unheard, 5, 0);
        }
    }

    private static List<int[]> signalAlone(String bits) {
        return Reference.frameOf(Waves.bitsOf(bits), List.of(), 0);
    }

    private static void wrongSignal() {
        for (int first = 0; first < 128; first++) {
            StringBuilder bits = new StringBuilder();
            for (int k = 0; k < 7; k++) {
                bits.append(first >> k & 1);
            }
            int count = first >> 2 & 15;
            boolean good = Integer.bitCount(first) % 2 == 0 && count >= 1 && count <= 12;
            Map<String, Object> seen = Waves.received(signalAlone(bits + "00000000000"));
            Check.same(bits + ": answer", seen.get("heard(0)"), good ? -4 : -3);
            Check.same(bits + ": rate", seen.get("heard(2)"), good ? first & 3 : -1);
            Check.same(bits + ": how many", seen.get("heard(3)"), good ? count : -1);
        }
        for (int one = 7; one < 18; one++) {
            for (int other = one; other < 18; other++) {
                StringBuilder bits = new StringBuilder("001100000000000000");
                bits.setCharAt(one, '1');
                bits.setCharAt(other, '1');
                heard("1 at " + one + " and " + other, signalAlone(bits.toString()), -3, 0);
            }
        }
        heard("all as said", signalAlone("001100000000000000"), -4, 0);
    }

    private static void wrongNumber() {
        for (String rate : new String[] {"00", "11"}) {
            heard("0", signalAlone(rate + "0000" + "0" + "00000000000"), -3, 0);
            heard("1", signalAlone(rate + "1000" + "1" + "00000000000"), -4, 0);
            heard("12", signalAlone(rate + "0011" + "0" + "00000000000"), -4, 0);
            heard("13", signalAlone(rate + "1011" + "1" + "00000000000"), -3, 0);
            heard("14", signalAlone(rate + "0111" + "1" + "00000000000"), -3, 0);
            heard("15", signalAlone(rate + "1111" + "0" + "00000000000"), -3, 0);
        }
    }

    private static void tooFew() {
        for (int rate = 0; rate <= 3; rate++) {
            for (int count = 1; count <= 12; count++) {
                int needed = 100 + 20 * ((13 + 8 * count + IN_SYMBOL[rate] - 1) / IN_SYMBOL[rate]);
                for (int lead : new int[] {0, 40}) {
                    String what = "rate " + rate + ", " + count + " bytes, lead " + lead;
                    Scene whole = Scene.NEW.putMany(count).send(rate, 2).air(lead, 0, 0);
                    Check.same(what, whole.answer(), lead + needed);
                    Check.same(what, whole.receive().answer(), count);
                    Check.same(what + ", one less", whole.cut(lead + needed - 1).receive().answer(), -4);
                    Check.same(what + ", SIGNAL alone", whole.cut(lead + 100).receive().answer(), -4);
                }
            }
        }
        // More than are needed do not harm.
        List<int[]> longer = new ArrayList<>(twoBytes(3));
        for (int k = 0; k < 200; k++) {
            longer.add(new int[] {k * 7 % 900, -k * 5 % 900});
            if (k % 50 == 0) {
                heard(k + 1 + " more", new ArrayList<>(longer), 2, 0);
            }
        }
    }

    private static void noScrambler() {
        for (int rate = 0; rate <= 3; rate++) {
            for (int first = 0; first < 128; first++) {
                List<Integer> data = new ArrayList<>(Reference.dataOf(List.of(0, 0), rate, 1));
                for (int k = 0; k < 7; k++) {
                    data.set(k, first >> (6 - k) & 1);
                }
                List<int[]> wave = Reference.frameOf(Reference.signalOf(rate, 2), data, rate);
                Map<String, Object> seen = Waves.received(wave);
                Check.same("state " + first, seen.get("heard(0)"), first == 0 ? -5 : 2);
                Check.same("state " + first, seen.get("heard(4)"), first);
                Check.same("a byte", seen.get("got(0)").equals(-1), first == 0);
                Waves.checkReceived("state " + first, wave);
            }
        }
    }

    private static void allLengths() {
        for (int rate = 0; rate <= 3; rate++) {
            for (int count = 1; count <= 12; count++) {
                Scene scene = Scene.NEW.putMany(count).send(rate, 127).air(count, 0, rate).receive();
                Check.same("rate " + rate + ", " + count + " bytes", scene.answer(), count);
                for (int k = 0; k <= 12; k++) {
                    int asked = k;
                    Check.same("byte " + k, scene.answer(x -> x.got(asked)), k < count ? 17 + k : -1);
                }
                List<Integer> bytes = new ArrayList<>();
                for (int k = 0; k < count; k++) {
                    bytes.add(17 + k);
                }
                // The metric is of all symbols, the last one too.
                Waves.checkReceived("rate " + rate + ", " + count + " bytes", Waves.frame(rate, 127, bytes));
            }
        }
    }
}
