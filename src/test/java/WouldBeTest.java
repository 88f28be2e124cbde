/** Promises 27 to 34: what would be. */
public final class WouldBeTest {
    private static final Class<IndexOutOfBoundsException> NO_POT = IndexOutOfBoundsException.class;
    private static final Class<IllegalArgumentException> BAD = IllegalArgumentException.class;

    private WouldBeTest() {
    }

    public static void main(String[] args) {
        promise27BestTuning();
        promise27BestTuningAtTheEnds();
        promise27BestTuningOfSilentPots();
        promise28BestToMute();
        promise29HarmonyIn();
        promise29HarmonyInWithCracks();
        promise30BeatsUntilSilence();
        promise31BeatsUntilCadence();
        promise31BeatsUntilCadenceWithCracks();
        promise32GreatestAccord();
        promise33MeanPitch();
        promise34Digest();
        promise34DigestByHand();
        promise34DigestOfCadences();
        promise34DigestOfTenPots();
        questionsChangeNothing();
        Checks.end();
    }

    private static int bestTuningOfLast(int... pitches) {
        return Choirs.chord(pitches).bestTuning(pitches.length - 1);
    }

    private static void promise27BestTuning() {
        Checks.due("27 alone", bestTuningOfLast(17), 0);
        Checks.due("27 an accord already", bestTuningOfLast(0, 4), 0);
        Checks.due("27 down to one pitch", bestTuningOfLast(0, 1), -1);
        Checks.due("27 up to one pitch", bestTuningOfLast(2, 1), 1);
        Checks.due("27 of two as near the greater one", bestTuningOfLast(0, 6), 1);
        Checks.due("27 of two as near, from below", bestTuningOfLast(18, 12), 1);
        Checks.due("27 the nearest to 0", bestTuningOfLast(0, 14), 1);
        Checks.due("27 of three others", bestTuningOfLast(2, 6, 8, 12), -1);
        Checks.due("27 the best there is still clashes", bestTuningOfLast(0, 1, 2, 3), 2);
        TeapotChoir x = Choirs.chord(0, 1);
        Checks.due("27 of another pot", x.bestTuning(0), 1);
        for (int pot : new int[] {-1, 2, 10, Integer.MIN_VALUE, Integer.MAX_VALUE}) {
            Checks.dueRefused("27 bestTuning(" + pot + ")", NO_POT, x, () -> x.bestTuning(pot));
        }
        Checks.dueThrow("27 without pots", NO_POT, () -> Choirs.chord().bestTuning(0));
    }

    private static void promise27BestTuningAtTheEnds() {
        Checks.due("27 not below 0", bestTuningOfLast(2, 0), 2);
        Checks.due("27 down to 0", bestTuningOfLast(3, 1), -1);
        Checks.due("27 not above 35", bestTuningOfLast(33, 35), -2);
        Checks.due("27 up to 35", bestTuningOfLast(32, 34), 1);
        Checks.due("27 as far as 11", bestTuningOfLast(2, 6, 8, 0), 11);
        Checks.due("27 as far as -11", bestTuningOfLast(3, 5, 9, 35), -11);
    }

    private static void promise27BestTuningOfSilentPots() {
        TeapotChoir x = Choirs.chord(0, 1, 2);
        x.turnCosy(0);
        Checks.due("27 with a cosy on", x.bestTuning(0), 0);
        Checks.due("27 silent ones don't count", x.bestTuning(1), 1);
        x.mend(2);
        Checks.due("27 without tea", x.bestTuning(2), 0);
        Checks.due("27 no other one sounds", x.bestTuning(1), 0);
    }

    private static void promise28BestToMute() {
        Checks.due("28 without pots", Choirs.chord().bestToMute(), -1);
        Checks.due("28 alone", Choirs.chord(7).bestToMute(), 0);
        Checks.due("28 all in accord", Choirs.chord(0, 4, 8).bestToMute(), 0);
        Checks.due("28 the one that clashes", Choirs.chord(0, 5, 1, 12).bestToMute(), 2);
        Checks.due("28 of two the smaller number", Choirs.chord(0, 4, 1, 3).bestToMute(), 2);
        TeapotChoir x = Choirs.chord(0, 1, 2, 3);
        x.turnCosy(1);
        Checks.due("28 of those that sound", x.bestToMute(), 2);
        x.turnCosy(2);
        x.mend(0);
        Checks.due("28 the only one", x.bestToMute(), 3);
        x.mend(3);
        Checks.due("28 none sounds", x.bestToMute(), -1);
    }

    private static void promise29HarmonyIn() {
        TeapotChoir x = Choirs.chord(0, 4, 8);
        x.addPot(0, 1, 2);
        Checks.due("29 behind 1", x.harmonyIn(1), 4);
        Checks.due("29 behind 2", x.harmonyIn(2), 3);
        Checks.due("29 behind 19", x.harmonyIn(19), 3);
        Checks.due("29 behind 20", x.harmonyIn(20), 0);
        Checks.due("29 behind 60", x.harmonyIn(60), 0);
        Checks.due("29 the harmony now", x.harmony(), 4);
        Checks.due("29 no beat went by", x.beats(), 0);
        x.addPot(0, 2, 1);
        Checks.due("29 a pot more", x.harmonyIn(1), 4);
        x.turnCosy(3);
        Checks.due("29 a cosy on", x.harmonyIn(1), 3);
        for (int beats : new int[] {0, -1, 61, Integer.MIN_VALUE, Integer.MAX_VALUE}) {
            Checks.dueRefused("29 harmonyIn(" + beats + ")", BAD, x, () -> x.harmonyIn(beats));
        }
    }

    private static void promise29HarmonyInWithCracks() {
        TeapotChoir x = Choirs.cracking();
        Checks.due("29 two clashes now", x.harmony(), -1);
        Checks.due("29 the pitch falls to 29", x.harmonyIn(1), 3);
        Checks.due("29 to 28", x.harmonyIn(2), 3);
        Checks.due("29 to 26", x.harmonyIn(4), -1);
        Checks.due("29 the pitch now", x.pitchOf(0), 30);
        Checks.due("29 the crack now", x.crackOf(0), 4);
        Checks.due("29 the tea now", x.teaOf(0), 20);
    }

    private static void promise30BeatsUntilSilence() {
        Checks.due("30 without pots", Choirs.chord().beatsUntilSilence(), 0);
        TeapotChoir x = Choirs.chord(0);
        Checks.due("30 20 at most", x.beatsUntilSilence(), 20);
        x.sing(7);
        Checks.due("30 behind 7", x.beatsUntilSilence(), 13);
        x.turnCosy(0);
        Checks.due("30 none does now", x.beatsUntilSilence(), 0);
        x.addPot(0, 35, 1);
        Checks.due("30 one beat", x.beatsUntilSilence(), 1);
        x.turnCosy(0);
        Checks.due("30 the last one", x.beatsUntilSilence(), 13);
        TeapotChoir y = Choirs.chord(30);
        Checks.due("30 cracks take tea", y.beatsUntilSilence(), 15);
        Checks.due("30 no beat went by", y.beats(), 0);
        y.sing(15);
        Checks.due("30 as told", y.sounding(), 0);
    }

    private static void promise31BeatsUntilCadence() {
        Checks.due("31 without pots", Choirs.chord().beatsUntilCadence(), -1);
        Checks.due("31 clear, without a clash ahead", Choirs.chord(0, 4, 8).beatsUntilCadence(), -1);
        Checks.due("31 a clash for ever", Choirs.chord(0, 4, 8, 1).beatsUntilCadence(), -1);
        TeapotChoir x = Choirs.chord(0, 4, 8);
        x.addPot(0, 1, 1);
        Checks.due("31 in the one behind the next", x.beatsUntilCadence(), 2);
        x.sing(1);
        Checks.due("31 in the next one", x.beatsUntilCadence(), 1);
        Checks.due("31 asked again", x.beatsUntilCadence(), 1);
        Checks.due("31 none yet", x.cadences(), 0);
        x.sing(1);
        Checks.due("31 one behind", x.cadences(), 1);
        Checks.due("31 no more", x.beatsUntilCadence(), -1);
        TeapotChoir y = Choirs.chord(0, 4, 8);
        y.addPot(0, 1, 19);
        Checks.due("31 in the last one that sounds", y.beatsUntilCadence(), 20);
        y.sing(1);
        y.mend(3);
        Checks.due("31 mended", y.beatsUntilCadence(), 1);
        y.turnCosy(0);
        Checks.due("31 too few", y.beatsUntilCadence(), -1);
    }

    private static void promise31BeatsUntilCadenceWithCracks() {
        TeapotChoir x = Choirs.cracking();
        Checks.due("31 the pitch finds its way", x.beatsUntilCadence(), 2);
        Checks.due("31 the pitch now", x.pitchOf(0), 30);
    }

    private static void promise32GreatestAccord() {
        Checks.due("32 without pots", Choirs.chord().greatestAccord(), 0);
        Checks.due("32 alone", Choirs.chord(7).greatestAccord(), 1);
        Checks.due("32 a clash", Choirs.chord(0, 1).greatestAccord(), 1);
        Checks.due("32 an accord", Choirs.chord(0, 4).greatestAccord(), 2);
        Checks.due("32 no two of three", Choirs.chord(0, 5, 10).greatestAccord(), 2);
        Checks.due("32 not the first ones", Choirs.chord(1, 2, 0, 4, 8).greatestAccord(), 3);
        Checks.due("32 ten", Choirs.chord(0, 12, 24, 0, 4, 16, 28, 8, 20, 32).greatestAccord(), 10);
        Checks.due("32 five of ten", Choirs.chord(0, 1, 12, 13, 24, 25, 0, 1, 12, 13).greatestAccord(), 5);
        TeapotChoir x = Choirs.chord(0, 4, 8, 2);
        Checks.due("32 three of four", x.greatestAccord(), 3);
        x.turnCosy(0);
        Checks.due("32 a cosy on", x.greatestAccord(), 2);
        x.mend(1);
        Checks.due("32 without tea", x.greatestAccord(), 1);
        x.mend(2);
        x.mend(3);
        Checks.due("32 none sounds", x.greatestAccord(), 0);
    }

    private static void promise33MeanPitch() {
        Checks.due("33 without pots", Choirs.chord().meanPitch(), 0.0);
        Checks.due("33 alone", Choirs.chord(35).meanPitch(), 35.0);
        Checks.due("33 a half", Choirs.chord(0, 1).meanPitch(), 0.5);
        Checks.due("33 a third", Choirs.chord(0, 0, 1).meanPitch(), 1.0 / 3.0);
        TeapotChoir x = Choirs.chord(10, 20, 33);
        x.turnCosy(2);
        Checks.due("33 of those that sound", x.meanPitch(), 15.0);
        x.mend(0);
        Checks.due("33 without an empty one", x.meanPitch(), 20.0);
        x.mend(1);
        Checks.due("33 none sounds", x.meanPitch(), 0.0);
    }

    private static void promise34Digest() {
        TeapotChoir x = new TeapotChoir();
        Checks.due("34 without pots", x.digest(), digestOf(x));
        x.addPot(1, 4, 20);
        x.addPot(2, 29, 17);
        x.addPot(3, 8, 9);
        x.addPot(0, 1, 3);
        x.addPot(3, 2, 0);
        for (int beat = 0; beat < 22; beat++) {
            // Not behind every beat: an object is good for 512 calls, and digestOf takes 48 of them.
            if (beat % 3 == 0) {
                Checks.due("34 behind " + beat, x.digest(), digestOf(x));
            }
            if (beat % 5 == 3) {
                x.turnCosy(beat % 4);
            }
            x.sing(1);
        }
        Checks.due("34 asked again", x.digest(), x.digest());
    }

    /** 2087 and thirteen numbers by hand: all are 0 but harshest, lowest, bestToMute, beatsUntilCadence. */
    private static void promise34DigestByHand() {
        long power = 1;
        long[] powers = new long[14];
        for (int i = 0; i < 14; i++) {
            powers[i] = power;
            power *= 31;
        }
        long want = 2087 * powers[13] - powers[7] - powers[6] - powers[3] - powers[1];
        Checks.due("34 a new object", new TeapotChoir().digest(), want);
    }

    private static void promise34DigestOfCadences() {
        TeapotChoir x = Choirs.chord(0, 4, 8);
        x.addPot(0, 1, 2);
        x.sing(3);
        Checks.due("34 it is clear", x.isClear(), true);
        Checks.due("34 a cadence", x.cadences(), 1);
        Checks.due("34 clear behind a cadence", x.digest(), digestOf(x));
    }

    private static void promise34DigestOfTenPots() {
        TeapotChoir x = Choirs.chord(0, 1, 2, 3, 4, 5, 6, 7, 8, 9);
        Checks.due("34 ten pots", x.digest(), digestOf(x));
    }

    private static long digestOf(TeapotChoir x) {
        long[] first = {
            x.pots(), x.beats(), x.sounding(), x.harmony(), x.clashes(), x.harshest(), x.lowest(),
            x.isClear() ? 1 : 0, x.cadences(), x.bestToMute(), x.beatsUntilSilence(), x.beatsUntilCadence(),
            x.greatestAccord(),
        };
        long d = folded(2087, first);
        for (int pot = 0; pot < x.pots(); pot++) {
            long[] ofPot = {
                x.partOf(pot), x.pitchOf(pot), x.teaOf(pot), x.crackOf(pot), x.sounds(pot) ? 1 : 0,
                x.clashesOf(pot), x.bestTuning(pot),
            };
            d = folded(d, ofPot);
        }
        return d;
    }

    private static long folded(long d, long[] numbers) {
        for (long x : numbers) {
            d = d * 31 + x;
        }
        return d;
    }

    private static void questionsChangeNothing() {
        TeapotChoir x = Choirs.cracking();
        TeapotChoir y = Choirs.cracking();
        x.bestTuning(0);
        x.bestToMute();
        x.harmonyIn(60);
        x.beatsUntilSilence();
        x.beatsUntilCadence();
        x.greatestAccord();
        x.meanPitch();
        x.digest();
        for (int beat = 0; beat < 8; beat++) {
            Checks.due("27 to 34 nothing is changed", Checks.look(x), Checks.look(y));
            Checks.due("27 to 34 nor is the song", x.sing(1), y.sing(1));
        }
    }
}
