import java.math.BigInteger;

/**
 * The sentences of the promises 27 to 34 that name an edge: a method each, with the sentence above it. What
 * would be is often asked of another choir to which it is really done.
 */
public final class WouldBeEdgesTest {
    private static final int[][] CHORDS = {
        {}, {0}, {35}, {0, 35}, {17, 18}, {6, 18, 30}, {0, 1, 2}, {0, 4, 8, 1}, {35, 34, 24, 23}, {1, 14, 27, 5, 33},
        {0, 1, 2, 3, 4, 5, 6, 7, 8},
    };

    private WouldBeEdgesTest() {
    }

    public static void main(String[] args) {
        promise27();
        promise28();
        promise29();
        promise30();
        promise31();
        promise32();
        promise33();
        promise34();
        Checks.end();
    }

    private static void promise27() {
        bestTuningWithoutSuchAPot();
        bestTuningIsTheBest();
        bestTuningStaysWithinThePitches();
        bestTuningNearestTo0();
        bestTuningOfTwoAsNear();
        bestTuningOfASilentPot();
        Checks.dueUnchanged("27 bestTuning", x -> x.pots() > 0 ? x.bestTuning(0) : 0);
    }

    private static void promise28() {
        bestToMuteIsTheBest();
        bestToMuteOfSeveral();
        bestToMuteIfNoneSounds();
        Checks.dueUnchanged("28 bestToMute", x -> x.bestToMute());
    }

    private static void promise29() {
        harmonyInBeatsOutside();
        harmonyInFrom1To60();
        Checks.dueUnchanged("29 harmonyIn(1)", x -> x.harmonyIn(1));
        Checks.dueUnchanged("29 harmonyIn(60)", x -> x.harmonyIn(60));
    }

    private static void promise30() {
        beatsUntilSilence0IfNoneDoes();
        beatsUntilSilenceNeverMoreThan20();
        beatsUntilSilenceAsSung();
        Checks.dueUnchanged("30 beatsUntilSilence", x -> x.beatsUntilSilence());
    }

    private static void promise31() {
        beatsUntilCadence1IfInTheNext();
        beatsUntilCadenceAtMost();
        beatsUntilCadenceIfNotByThen();
        beatsUntilCadenceAsSung();
        Checks.dueUnchanged("31 beatsUntilCadence", x -> x.beatsUntilCadence());
    }

    private static void promise32() {
        greatestAccordFrom0To10();
        greatestAccordOfWhichNoTwoClash();
        greatestAccordOfPotsThatSound();
    }

    private static void promise33() {
        meanPitchWithoutAny();
        meanPitchIsNotCut();
        meanPitchOfPotsThatSound();
    }

    private static void promise34() {
        digestStartsWith2087();
        digestOfOnePot();
        digestWrapsAround();
        digestCountsWhetherSomethingIsSo();
        Checks.dueUnchanged("34 digest", x -> x.digest());
    }

    private static TeapotChoir chordAnd(int[] others, int pitch) {
        TeapotChoir x = Choirs.chord(others);
        x.addPot(0, pitch, 20);
        return x;
    }

    /** 27: "IndexOutOfBoundsException if there is no such teapot". */
    private static void bestTuningWithoutSuchAPot() {
        Checks.dueNoSuchPot("27 bestTuning", (x, pot) -> x.bestTuning(pot));
    }

    /** 27: "-12 to 12, with a pitch of 0 to 35, so that the harmony is the greatest", tuned each way for a trial. */
    private static void bestTuningIsTheBest() {
        for (int[] others : CHORDS) {
            for (int pitch = 0; pitch <= 35; pitch++) {
                int want = bestByTrial(chordAnd(others, pitch), others.length, pitch);
                int got = chordAnd(others, pitch).bestTuning(others.length);
                Checks.due("27 the last of " + (others.length + 1) + ", of the pitch " + pitch, got, want);
            }
        }
    }

    /** Goes from the farthest to the nearest, and of two as near tries the greater one later: so the last wins. */
    private static int bestByTrial(TeapotChoir x, int pot, int pitch) {
        int best = 0;
        int most = Integer.MIN_VALUE;
        for (int far = 12; far >= 0; far--) {
            for (int by = -far; by <= far; by += Math.max(1, 2 * far)) {
                if (pitch + by < 0 || pitch + by > 35) {
                    continue;
                }
                x.tune(pot, by);
                if (x.harmony() >= most) {
                    most = x.harmony();
                    best = by;
                }
                x.tune(pot, -by);
            }
        }
        return best;
    }

    /** 27: "with a pitch of 0 to 35". The nearer way would lead out of them. */
    private static void bestTuningStaysWithinThePitches() {
        Checks.due("27 not from 0 to -1", chordAnd(new int[] {2}, 0).bestTuning(1), 2);
        Checks.due("27 from 1 to 0", chordAnd(new int[] {3}, 1).bestTuning(1), -1);
        Checks.due("27 not from 35 to 36", chordAnd(new int[] {33}, 35).bestTuning(1), -2);
        Checks.due("27 from 34 to 35", chordAnd(new int[] {32}, 34).bestTuning(1), 1);
        Checks.due("27 up by 11", chordAnd(new int[] {2, 6, 8}, 0).bestTuning(3), 11);
        Checks.due("27 down by 11", chordAnd(new int[] {3, 5, 9}, 35).bestTuning(3), -11);
    }

    /** 27: "of several the nearest to 0". */
    private static void bestTuningNearestTo0() {
        Checks.due("27 all are as good", Choirs.chord(17).bestTuning(0), 0);
        Checks.due("27 none is better", chordAnd(new int[] {0, 4, 8}, 12).bestTuning(3), 0);
        Checks.due("27 down by 1, not up by 2", chordAnd(new int[] {0}, 1).bestTuning(1), -1);
        Checks.due("27 up by 1, not down by 2", chordAnd(new int[] {0}, 2).bestTuning(1), 1);
    }

    /** 27: "of two as near the greater one". */
    private static void bestTuningOfTwoAsNear() {
        Checks.due("27 1 or -1", chordAnd(new int[] {0}, 6).bestTuning(1), 1);
        Checks.due("27 1 or -1, high", chordAnd(new int[] {35}, 29).bestTuning(1), 1);
        Checks.due("27 2 or -2", chordAnd(new int[] {0, 1, 11}, 6).bestTuning(3), 2);
    }

    /** 27: the harmony is of pots that sound: the tuning of a silent one makes none the greater. */
    private static void bestTuningOfASilentPot() {
        TeapotChoir x = Choirs.chord(0, 1, 2);
        x.turnCosy(1);
        Checks.due("27 a mute pot", x.bestTuning(1), 0);
        x.mend(2);
        Checks.due("27 an empty pot", x.bestTuning(2), 0);
        Checks.due("27 with silent ones", x.bestTuning(0), 0);
    }

    /** 28: "so that the harmony is the greatest without it", each one muted for a trial. */
    private static void bestToMuteIsTheBest() {
        for (int[] others : CHORDS) {
            for (int pitch = 0; pitch <= 35; pitch++) {
                TeapotChoir x = chordAnd(others, pitch);
                int best = -1;
                int most = Integer.MIN_VALUE;
                for (int pot = others.length; pot >= 0; pot--) {
                    x.turnCosy(pot);
                    if (x.harmony() >= most) {
                        most = x.harmony();
                        best = pot;
                    }
                    x.turnCosy(pot);
                }
                Checks.due("28 with a last one of the pitch " + pitch, x.bestToMute(), best);
            }
        }
    }

    /** 28: "of several the smallest number". */
    private static void bestToMuteOfSeveral() {
        Checks.due("28 ten of one pitch", Choirs.chord(3, 3, 3, 3, 3, 3, 3, 3, 3, 3).bestToMute(), 0);
        Checks.due("28 two that clash", Choirs.chord(0, 5, 7).bestToMute(), 1);
        TeapotChoir x = Choirs.chord(0, 5, 7, 17);
        x.turnCosy(0);
        x.turnCosy(2);
        Checks.due("28 the first two of those that sound", x.bestToMute(), 1);
    }

    /** 28: "-1 if none sounds". */
    private static void bestToMuteIfNoneSounds() {
        Checks.due("28 no pot", new TeapotChoir().bestToMute(), -1);
        TeapotChoir x = Choirs.chord(0, 1, 2);
        x.turnCosy(0);
        x.mend(1);
        Checks.due("28 the only one", x.bestToMute(), 2);
        x.sing(20);
        Checks.due("28 none sounds", x.bestToMute(), -1);
    }

    /** 29: "IllegalArgumentException if beats is not 1 to 60". */
    private static void harmonyInBeatsOutside() {
        for (int beats : new int[] {0, -1, 61, Checks.LEAST, Checks.MOST}) {
            Checks.dueRefusedByAll("29 harmonyIn(" + beats + ")", Checks.BAD, x -> x.harmonyIn(beats));
        }
    }

    /** The kinds of Choirs, and two that sing on through clashes and cracks. */
    private static TeapotChoir singer(int which) {
        switch (which) {
            case 4: return Choirs.cracking();
            case 5: return Choirs.worn(35, 20, 9, 1);
            default: return Choirs.kind(which);
        }
    }

    /** 29: "Returns the harmony behind them, if nothing else is done". */
    private static void harmonyInFrom1To60() {
        for (int which = 0; which < 6; which++) {
            TeapotChoir asked = singer(which);
            TeapotChoir sung = singer(which);
            for (int beats = 1; beats <= 60; beats++) {
                sung.sing(1);
                Checks.due("29 of the choir " + which + " in " + beats, asked.harmonyIn(beats), sung.harmony());
            }
        }
    }

    /** 30: "0 if none does now". */
    private static void beatsUntilSilence0IfNoneDoes() {
        TeapotChoir x = Choirs.chord(0, 0);
        x.turnCosy(0);
        x.mend(1);
        Checks.due("30 a mute and an empty pot", x.beatsUntilSilence(), 0);
        Checks.due("30 no pot", new TeapotChoir().beatsUntilSilence(), 0);
        x.pour(0, 1, 1);
        Checks.due("30 a sip", x.beatsUntilSilence(), 1);
    }

    /** 30: "it is never more than 20". */
    private static void beatsUntilSilenceNeverMoreThan20() {
        Checks.due("30 a full pot", Choirs.chord(0).beatsUntilSilence(), 20);
        Checks.due("30 ten full pots", Choirs.chord(0, 1, 2, 3, 4, 5, 6, 7, 8, 9).beatsUntilSilence(), 20);
        int[] want = {20, 20, 20, 10, 10, 10, 7, 7, 7, 5};
        for (int crack = 0; crack <= 9; crack++) {
            int got = Choirs.worn(0, 20, crack, 1).beatsUntilSilence();
            Checks.due("30 with a crack of " + crack, got, want[crack]);
        }
    }

    /** 30: "Returns behind how many beats no pot sounds, if nothing else is done". */
    private static void beatsUntilSilenceAsSung() {
        for (int which = 0; which < 6; which++) {
            TeapotChoir sung = singer(which);
            int told = singer(which).beatsUntilSilence();
            for (int beats = 0; beats < 25; beats++) {
                int left = Math.max(0, told - beats);
                Checks.due("30 the choir " + which + " behind " + beats, sung.beatsUntilSilence(), left);
                Checks.due("30 whether it sounds then", sung.sounding() > 0, left > 0);
                sung.sing(1);
            }
        }
    }

    /** 31: "1 if in the next one". */
    private static void beatsUntilCadence1IfInTheNext() {
        TeapotChoir x = Choirs.behindClash();
        Checks.due("31 out of a clash", x.beatsUntilCadence(), 1);
        Checks.due("31 as told", x.sing(1), 1);
        Checks.due("31 not twice", x.beatsUntilCadence(), -1);
        TeapotChoir y = Choirs.chord(0, 4, 8);
        y.addPot(0, 1, 1);
        Checks.due("31 the clash sounds once more", y.beatsUntilCadence(), 2);
    }

    /** 31: "at most 60": by the tea that a pot can hold, it can't be behind more than 20. */
    private static void beatsUntilCadenceAtMost() {
        for (int tea = 1; tea <= 20; tea++) {
            TeapotChoir x = Choirs.chord(0, 4, 8);
            x.addPot(0, 1, tea);
            Checks.due("31 behind a clash with tea of " + tea, x.beatsUntilCadence(), tea < 20 ? tea + 1 : -1);
        }
    }

    /** 31: "-1 if not by then". */
    private static void beatsUntilCadenceIfNotByThen() {
        Checks.due("31 no pot", new TeapotChoir().beatsUntilCadence(), -1);
        Checks.due("31 clear all the time", Choirs.chord(0, 4, 8).beatsUntilCadence(), -1);
        TeapotChoir two = Choirs.chord(0, 4);
        two.addPot(0, 1, 3);
        Checks.due("31 two pots when the clash is over", two.beatsUntilCadence(), -1);
        TeapotChoir muted = Choirs.chord(0, 4, 8, 1);
        muted.turnCosy(3);
        Checks.due("31 a clash that no beat began with", muted.beatsUntilCadence(), -1);
        TeapotChoir silent = Choirs.behindClash();
        silent.turnCosy(0);
        Checks.due("31 too few behind a clash", silent.beatsUntilCadence(), -1);
    }

    /** 31: "Returns behind how many beats there is a cadence, if nothing else is done". */
    private static void beatsUntilCadenceAsSung() {
        int[] told = {2, 1, 5, 4, 3, 2, 1, -1, -1, -1};
        TeapotChoir x = Choirs.cracking();
        for (int beat = 0; beat < told.length; beat++) {
            Checks.due("31 behind the beat " + beat, x.beatsUntilCadence(), told[beat]);
            Checks.due("31 as told", x.sing(1), told[beat] == 1 ? 1 : 0);
        }
    }

    /** 32: "Returns the most pots that sound and of which no two clash": none, one, and up to all ten. */
    private static void greatestAccordFrom0To10() {
        TeapotChoir x = new TeapotChoir();
        TeapotChoir y = new TeapotChoir();
        for (int pot = 0; pot < 10; pot++) {
            Checks.due("32 all of " + pot, x.greatestAccord(), pot);
            Checks.due("32 half of " + pot, y.greatestAccord(), (pot + 1) / 2);
            x.addPot(0, 4 * (pot % 9), 20);
            y.addPot(0, pot % 2, 20);
        }
        Checks.due("32 all of ten", x.greatestAccord(), 10);
        Checks.due("32 half of ten", y.greatestAccord(), 5);
    }

    /** 32: "of which no two clash": all groups of pots are tried by the intervals of their pots. */
    private static void greatestAccordOfWhichNoTwoClash() {
        for (int[] others : CHORDS) {
            for (int pitch = 0; pitch <= 35; pitch++) {
                TeapotChoir x = chordAnd(others, pitch);
                boolean[][] accord = new boolean[x.pots()][x.pots()];
                for (int one = 0; one < x.pots(); one++) {
                    for (int other = 0; other < x.pots(); other++) {
                        accord[one][other] = x.areInAccord(one, other);
                    }
                }
                int want = most(accord, 0, 0);
                Checks.due("32 with a last one of the pitch " + pitch, x.greatestAccord(), want);
            }
        }
    }

    private static int most(boolean[][] accord, int pot, int group) {
        if (pot == accord.length) {
            return Integer.bitCount(group);
        }
        int without = most(accord, pot + 1, group);
        for (int other = 0; other < pot; other++) {
            if ((group >> other & 1) == 1 && !accord[pot][other]) {
                return without;
            }
        }
        return Math.max(without, most(accord, pot + 1, group | 1 << pot));
    }

    /** 32: "that sound". */
    private static void greatestAccordOfPotsThatSound() {
        TeapotChoir x = Choirs.chord(0, 4, 8, 1, 12);
        Checks.due("32 four of five", x.greatestAccord(), 4);
        x.turnCosy(0);
        Checks.due("32 the first is mute", x.greatestAccord(), 3);
        x.mend(4);
        Checks.due("32 the last is empty, but the 1 takes its place", x.greatestAccord(), 3);
        x.mend(1);
        Checks.due("32 the second is empty", x.greatestAccord(), 2);
        x.sing(20);
        Checks.due("32 none sounds", x.greatestAccord(), 0);
    }

    /** 33: "0 without any." */
    private static void meanPitchWithoutAny() {
        Checks.due("33 no pot", new TeapotChoir().meanPitch(), 0.0);
        TeapotChoir x = Choirs.chord(7, 9);
        x.turnCosy(0);
        x.mend(1);
        Checks.due("33 none sounds", x.meanPitch(), 0.0);
    }

    /** 33: "Returns the mean pitch": a fraction too, though numbers are whole elsewhere. */
    private static void meanPitchIsNotCut() {
        Checks.due("33 a half", Choirs.chord(34, 35).meanPitch(), 34.5);
        Checks.due("33 two thirds", Choirs.chord(0, 1, 1).meanPitch(), 2.0 / 3.0);
        Checks.due("33 a tenth", Choirs.chord(0, 0, 0, 0, 0, 0, 0, 0, 0, 1).meanPitch(), 0.1);
        Checks.due("33 the lowest", Choirs.chord(0, 0).meanPitch(), 0.0);
        Checks.due("33 the highest", Choirs.chord(35, 35, 35, 35, 35, 35, 35, 35, 35, 35).meanPitch(), 35.0);
    }

    /** 33: "of pots that sound". */
    private static void meanPitchOfPotsThatSound() {
        TeapotChoir x = Choirs.chord(35, 1, 2, 30);
        x.turnCosy(0);
        x.mend(3);
        Checks.due("33 without a mute and an empty one", x.meanPitch(), 1.5);
    }

    /** 34: "A number d starts with 2087", and thirteen numbers are told without pots. */
    private static void digestStartsWith2087() {
        long[] numbers = {0, 0, 0, 0, 0, -1, -1, 0, 0, -1, 0, -1, 0};
        Checks.due("34 no pot", new TeapotChoir().digest(), folded(numbers));
    }

    /** 34: "then for each pot": seven numbers more for the first one. */
    private static void digestOfOnePot() {
        long[] numbers = {1, 0, 1, 0, 0, -1, 0, 0, 0, 0, 20, -1, 1, 0, 7, 20, 0, 1, 0, 0};
        Checks.due("34 a pot", Choirs.chord(7).digest(), folded(numbers));
    }

    /** 34: "which wraps around as a 64-bit integer": the same sum without end, cut to 64 bits at last. */
    private static void digestWrapsAround() {
        for (int which = 0; which < 6; which++) {
            TeapotChoir x = singer(which);
            for (int beats = 0; beats < 3; beats++) {
                Checks.due("34 the choir " + which + " behind " + beats, x.digest(), folded(numbersOf(x)));
                x.sing(1);
            }
        }
        Checks.due("34 without an end it is greater", endless(numbersOf(Choirs.full())).bitLength() > 64, true);
    }

    private static long folded(long[] numbers) {
        return endless(numbers).longValue();
    }

    private static BigInteger endless(long[] numbers) {
        BigInteger d = BigInteger.valueOf(2087);
        for (long number : numbers) {
            d = d.multiply(BigInteger.valueOf(31)).add(BigInteger.valueOf(number));
        }
        return d;
    }

    private static long[] numbersOf(TeapotChoir x) {
        long[] numbers = new long[13 + 7 * x.pots()];
        long[] first = {
            x.pots(), x.beats(), x.sounding(), x.harmony(), x.clashes(), x.harshest(), x.lowest(),
            x.isClear() ? 1 : 0, x.cadences(), x.bestToMute(), x.beatsUntilSilence(), x.beatsUntilCadence(),
            x.greatestAccord(),
        };
        System.arraycopy(first, 0, numbers, 0, 13);
        for (int pot = 0; pot < x.pots(); pot++) {
            long[] ofPot = {
                x.partOf(pot), x.pitchOf(pot), x.teaOf(pot), x.crackOf(pot), x.sounds(pot) ? 1 : 0,
                x.clashesOf(pot), x.bestTuning(pot),
            };
            System.arraycopy(ofPot, 0, numbers, 13 + 7 * pot, 7);
        }
        return numbers;
    }

    /** 34: "(whether something is so counts 1 or 0)". */
    private static void digestCountsWhetherSomethingIsSo() {
        TeapotChoir clear = Choirs.chord(0, 0, 0);
        clear.addPot(1, 2, 0);
        long[] numbers = {
            4, 0, 3, 3, 0, -1, 0, 1, 0, 0, 20, -1, 3,
            0, 0, 20, 0, 1, 0, 0, 0, 0, 20, 0, 1, 0, 0, 0, 0, 20, 0, 1, 0, 0, 1, 2, 0, 0, 0, 0, 0,
        };
        Checks.due("34 a clear chord, and a pot that does not sound", clear.digest(), folded(numbers));
        TeapotChoir clash = Choirs.chord(0, 1);
        long[] others = {2, 0, 2, -1, 1, 0, 0, 0, 0, 0, 20, -1, 1, 0, 0, 20, 0, 1, 1, 1, 0, 1, 20, 0, 1, 1, -1};
        Checks.due("34 a clash", clash.digest(), folded(others));
    }
}
