/** The sentences of the promises 1 to 15 that name an edge: a method each, with the sentence above it. */
public final class PotsEdgesTest {
    private PotsEdgesTest() {
    }

    public static void main(String[] args) {
        promise1();
        promise2();
        promise3();
        promise4();
        promise5();
        promise6();
        promise7();
        promise8();
        promises9To15();
        Checks.end();
    }

    private static void promise1() {
        withoutTeapots();
        aheadOfTheBeat0();
    }

    private static void promise2() {
        addPotOfPartsOutside();
        addPotOfPitchesOutside();
        addPotOfTeaOutside();
        addPotIfThereAre10();
        addPotTellsItsNumber();
    }

    private static void promise3() {
        tuneWithoutSuchAPot();
        tuneByTooMuch();
        tuneOutOfThePitches();
        tuneTellsThePitchThen();
    }

    private static void promise4() {
        turnCosyWithoutSuchAPot();
        turnCosyOnAndOff();
    }

    private static void promise5() {
        pourWithoutSuchAPot();
        pourIntoItself();
        pourTeaOutside();
        pourAsMuchAsThereIs();
    }

    private static void promise6() {
        fillWithoutSuchAPot();
        fillUpTo20();
    }

    private static void promise7() {
        mendWithoutSuchAPot();
        mendTellsTheCrackBefore();
        mendLosesTheTea();
    }

    private static void promise8() {
        singBeatsOutside();
        singFrom1To60();
        singCountsItsOwnCadences();
        singWithoutPots();
    }

    private static void promises9To15() {
        potsCountFrom0To10();
        Checks.dueNoSuchPot("10 partOf", (x, pot) -> x.partOf(pot));
        Checks.dueNoSuchPot("11 pitchOf", (x, pot) -> x.pitchOf(pot));
        Checks.dueNoSuchPot("12 teaOf", (x, pot) -> x.teaOf(pot));
        Checks.dueNoSuchPot("13 crackOf", (x, pot) -> x.crackOf(pot));
        Checks.dueNoSuchPot("14 sounds", (x, pot) -> x.sounds(pot));
        firstAndLastPot();
        soundingOfPartsOutside();
        soundingOfFrom0To10();
    }

    /** 1: "Creates a choir without teapots": whatever is asked of pots has no pot to tell of. */
    private static void withoutTeapots() {
        TeapotChoir x = new TeapotChoir();
        Checks.due("1 pots()", x.pots(), 0);
        Checks.due("1 sounding()", x.sounding(), 0);
        Checks.due("1 harmony()", x.harmony(), 0);
        Checks.due("1 clashes()", x.clashes(), 0);
        Checks.due("1 harshest()", x.harshest(), -1);
        Checks.due("1 lowest()", x.lowest(), -1);
        Checks.due("1 isClear()", x.isClear(), false);
        Checks.due("1 bestToMute()", x.bestToMute(), -1);
        Checks.due("1 harmonyIn(60)", x.harmonyIn(60), 0);
        Checks.due("1 beatsUntilSilence()", x.beatsUntilSilence(), 0);
        Checks.due("1 beatsUntilCadence()", x.beatsUntilCadence(), -1);
        Checks.due("1 greatestAccord()", x.greatestAccord(), 0);
        Checks.due("1 meanPitch()", x.meanPitch(), 0.0);
        Checks.dueThrow("1 the pot 0", Checks.NO_POT, () -> x.teaOf(0));
    }

    /** 1: "ahead of the beat 0." */
    private static void aheadOfTheBeat0() {
        TeapotChoir x = new TeapotChoir();
        Checks.due("1 beats()", x.beats(), 0);
        Checks.due("1 cadences()", x.cadences(), 0);
        x.addPot(0, 24, 2);
        x.sing(1);
        Checks.due("1 the first beat cracks, as 4 divides 0", x.crackOf(0), 1);
        TeapotChoir other = new TeapotChoir();
        Checks.due("1 another one's beats", other.beats(), 0);
        Checks.due("1 another one's pots", other.pots(), 0);
    }

    /** 2: "IllegalArgumentException if part is not 0 to 3". */
    private static void addPotOfPartsOutside() {
        for (int part : new int[] {-1, 4, Checks.LEAST, Checks.MOST}) {
            Checks.dueRefusedByAll("2 the part " + part, Checks.BAD, x -> x.addPot(part, 0, 20));
        }
        for (int part = 0; part <= 3; part++) {
            TeapotChoir x = new TeapotChoir();
            Checks.due("2 the part " + part, x.partOf(x.addPot(part, 0, 20)), part);
        }
    }

    /** 2: "pitch is not 0 to 35". */
    private static void addPotOfPitchesOutside() {
        for (int pitch : new int[] {-1, 36, Checks.LEAST, Checks.MOST}) {
            Checks.dueRefusedByAll("2 the pitch " + pitch, Checks.BAD, x -> x.addPot(0, pitch, 20));
        }
        for (int pitch = 0; pitch <= 35; pitch++) {
            TeapotChoir x = new TeapotChoir();
            Checks.due("2 the pitch " + pitch, x.pitchOf(x.addPot(0, pitch, 20)), pitch);
        }
    }

    /** 2: "or tea is not 0 to 20". */
    private static void addPotOfTeaOutside() {
        for (int tea : new int[] {-1, 21, Checks.LEAST, Checks.MOST}) {
            Checks.dueRefusedByAll("2 tea of " + tea, Checks.BAD, x -> x.addPot(0, 0, tea));
        }
        for (int tea = 0; tea <= 20; tea++) {
            TeapotChoir x = new TeapotChoir();
            Checks.due("2 tea of " + tea, x.teaOf(x.addPot(0, 0, tea)), tea);
        }
    }

    /** 2: "IllegalStateException if there are 10". */
    private static void addPotIfThereAre10() {
        Checks.dueRefusedBy("2 an eleventh", Checks.FULL, 3, x -> x.addPot(0, 0, 0));
        Checks.dueRefusedBy("2 an eleventh of the most", Checks.FULL, 3, x -> x.addPot(3, 35, 20));
        TeapotChoir x = Choirs.chord(0, 0, 0, 0, 0, 0, 0, 0, 0);
        Checks.due("2 the tenth", x.addPot(3, 35, 20), 9);
        x.mend(0);
        x.sing(60);
        Checks.dueThrow("2 silent ones count as well", Checks.FULL, () -> x.addPot(0, 0, 1));
        Checks.due("2 there are still", x.pots(), 10);
    }

    /** 2: "Returns its number." A refused call takes none. */
    private static void addPotTellsItsNumber() {
        TeapotChoir x = new TeapotChoir();
        for (int pot = 0; pot < 10; pot++) {
            Checks.dueThrow("2 refused", Checks.BAD, () -> x.addPot(0, 36, 0));
            Checks.due("2 its number", x.addPot(0, pot, 0), pot);
        }
    }

    /** 3: "IndexOutOfBoundsException if there is no such teapot". */
    private static void tuneWithoutSuchAPot() {
        Checks.dueNoSuchPot("3 tune by 0", (x, pot) -> x.tune(pot, 0));
    }

    /** 3: "IllegalArgumentException if by is not -12 to 12", even where the pitch would be one of 0 to 35. */
    private static void tuneByTooMuch() {
        for (int by : new int[] {13, -13, Checks.LEAST, Checks.MOST}) {
            Checks.due("3 tune(0, " + by + ")", isTuned(18, by), false);
        }
        for (int by = -12; by <= 12; by++) {
            Checks.due("3 tune(0, " + by + ")", isTuned(18, by), true);
        }
    }

    private static boolean isTuned(int pitch, int by) {
        TeapotChoir x = Choirs.chord(pitch);
        boolean tuned;
        try {
            x.tune(0, by);
            tuned = true;
        } catch (IllegalArgumentException e) {
            tuned = false;
        }
        Checks.due("3 the pitch " + pitch + " tuned by " + by, x.pitchOf(0), tuned ? pitch + by : pitch);
        return tuned;
    }

    /** 3: "or its pitch would not be 0 to 35". */
    private static void tuneOutOfThePitches() {
        for (int pitch = 0; pitch <= 35; pitch++) {
            for (int by = -12; by <= 12; by++) {
                boolean within = by < 0 ? pitch >= -by : 35 - pitch >= by;
                Checks.due("3 from " + pitch + " by " + by, isTuned(pitch, by), within);
            }
        }
    }

    /** 3: "Returns its pitch then." */
    private static void tuneTellsThePitchThen() {
        TeapotChoir x = Choirs.chord(12, 5);
        Checks.due("3 down to the lowest", x.tune(0, -12), 0);
        Checks.due("3 as low again", x.tune(0, 0), 0);
        Choirs.tuneTo(x, 0, 23);
        Checks.due("3 up to the highest", x.tune(0, 12), 35);
        Checks.due("3 the other one's pitch", x.pitchOf(1), 5);
    }

    /** 4: "IndexOutOfBoundsException if there is no such teapot". */
    private static void turnCosyWithoutSuchAPot() {
        Checks.dueNoSuchPot("4 turnCosy", (x, pot) -> x.turnCosy(pot));
    }

    /** 4: "Puts a cosy on a pot, or takes it off." "Returns whether it has one on then." */
    private static void turnCosyOnAndOff() {
        TeapotChoir x = Choirs.chord(0, 0);
        x.mend(1);
        for (int turn = 0; turn < 4; turn++) {
            for (int pot = 0; pot < 2; pot++) {
                Checks.due("4 turn " + turn + " of the pot " + pot, x.turnCosy(pot), turn % 2 == 0);
            }
            Checks.due("4 the full one sounds", x.sounds(0), turn % 2 == 1);
            Checks.due("4 the empty one sounds", x.sounds(1), false);
            x.sing(1);
        }
    }

    /** 5: "IndexOutOfBoundsException if there is no such teapot", be it the one or the other. */
    private static void pourWithoutSuchAPot() {
        Checks.dueNoSuchPot("5 pour from", (x, pot) -> x.pour(pot, 0, 1));
        Checks.dueNoSuchPot("5 pour to", (x, pot) -> x.pour(0, pot, 1));
        Checks.dueNoSuchPot("5 pour from and to", (x, pot) -> x.pour(pot, pot, 1));
    }

    /** 5: "IllegalArgumentException if both are the same". */
    private static void pourIntoItself() {
        Checks.dueRefusedBy("5 the only one into itself", Checks.BAD, 1, x -> x.pour(0, 0, 20));
        Checks.dueRefusedBy("5 an empty one into itself", Checks.BAD, 2, x -> x.pour(4, 4, 1));
        Checks.dueRefusedBy("5 the last one into itself", Checks.BAD, 3, x -> x.pour(9, 9, 1));
        Checks.dueRefusedBy("5 nothing into itself", Checks.BAD, 3, x -> x.pour(9, 9, 0));
    }

    /** 5: "or tea is not 1 to 20". */
    private static void pourTeaOutside() {
        for (int tea : new int[] {0, -1, 21, Checks.LEAST, Checks.MOST}) {
            Checks.dueRefusedBy("5 pour " + tea, Checks.BAD, 2, x -> x.pour(0, 1, tea));
            Checks.dueRefusedBy("5 pour out of an empty one " + tea, Checks.BAD, 2, x -> x.pour(4, 1, tea));
            Checks.dueRefusedBy("5 pour into a cosy " + tea, Checks.BAD, 3, x -> x.pour(0, 9, tea));
        }
    }

    /** 5: "as much as told, or as there is, or as the other one has room for." */
    private static void pourAsMuchAsThereIs() {
        for (int from = 0; from <= 20; from++) {
            for (int to = 0; to <= 20; to++) {
                for (int tea = 1; tea <= 20; tea++) {
                    duePoured(from, to, tea);
                }
            }
        }
    }

    private static void duePoured(int from, int to, int tea) {
        int want = tea;
        if (want > from) {
            want = from;
        }
        if (want > 20 - to) {
            want = 20 - to;
        }
        TeapotChoir x = new TeapotChoir();
        x.addPot(0, 0, to);
        x.addPot(0, 0, from);
        String call = "5 pour " + tea + " from " + from + " to " + to;
        Checks.due(call, x.pour(1, 0, tea), want);
        Checks.due(call + ": what is left", x.teaOf(1), from - want);
        Checks.due(call + ": what is there", x.teaOf(0), to + want);
    }

    /** 6: "IndexOutOfBoundsException if there is no such teapot". */
    private static void fillWithoutSuchAPot() {
        Checks.dueNoSuchPot("6 fill", (x, pot) -> x.fill(pot));
    }

    /** 6: "Fills a pot up, to 20." "Returns how much tea it gets." */
    private static void fillUpTo20() {
        for (int tea = 0; tea <= 20; tea++) {
            TeapotChoir x = new TeapotChoir();
            x.addPot(0, 0, 3);
            x.addPot(0, 0, tea);
            Checks.due("6 fill from " + tea, x.fill(1), 20 - tea);
            Checks.due("6 its tea", x.teaOf(1), 20);
            Checks.due("6 a full one gets", x.fill(1), 0);
            Checks.due("6 the other one's tea", x.teaOf(0), 3);
        }
        TeapotChoir mute = Choirs.worn(35, 7, 9, 1);
        mute.turnCosy(0);
        Checks.due("6 with a cosy on", mute.fill(0), 13);
        Checks.due("6 the cosy stays", mute.sounds(0), false);
        Checks.due("6 the crack stays", mute.crackOf(0), 9);
    }

    /** 7: "IndexOutOfBoundsException if there is no such teapot". */
    private static void mendWithoutSuchAPot() {
        Checks.dueNoSuchPot("7 mend", (x, pot) -> x.mend(pot));
    }

    /** 7: "its crack is 0"; "Returns its crack before." */
    private static void mendTellsTheCrackBefore() {
        for (int crack = 0; crack <= 9; crack++) {
            TeapotChoir x = Choirs.worn(20, 20, crack, 1);
            Checks.due("7 its crack before", x.mend(0), crack);
            Checks.due("7 its crack", x.crackOf(0), 0);
            Checks.due("7 its pitch", x.pitchOf(0), 20);
            Checks.due("7 mended again", x.mend(0), 0);
        }
    }

    /** 7: "and its tea is lost." */
    private static void mendLosesTheTea() {
        for (int tea = 0; tea <= 20; tea++) {
            TeapotChoir x = new TeapotChoir();
            x.addPot(0, 0, tea);
            x.addPot(0, 0, 7);
            Checks.due("7 without a crack", x.mend(0), 0);
            Checks.due("7 its tea", x.teaOf(0), 0);
            Checks.due("7 the other one's tea", x.teaOf(1), 7);
        }
        TeapotChoir mute = Choirs.worn(35, 7, 9, 1);
        mute.turnCosy(0);
        Checks.due("7 with a cosy on", mute.mend(0), 9);
        mute.fill(0);
        Checks.due("7 the cosy stays", mute.sounds(0), false);
    }

    /** 8: "IllegalArgumentException if beats is not 1 to 60". */
    private static void singBeatsOutside() {
        for (int beats : new int[] {0, -1, 61, Checks.LEAST, Checks.MOST}) {
            Checks.dueRefusedByAll("8 sing(" + beats + ")", Checks.BAD, x -> x.sing(beats));
        }
    }

    /** 8: "Lets beats go by." As many as are told, and as if they were told one by one. */
    private static void singFrom1To60() {
        for (int kind = 0; kind < Choirs.KINDS; kind++) {
            for (int beats = 1; beats <= 60; beats++) {
                TeapotChoir x = Choirs.kind(kind);
                TeapotChoir y = Choirs.kind(kind);
                int before = x.beats();
                int atOnce = x.sing(beats);
                int oneByOne = 0;
                for (int beat = 0; beat < beats; beat++) {
                    oneByOne += y.sing(1);
                }
                Checks.due("8 sing(" + beats + ")", atOnce, oneByOne);
                Checks.due("8 beats that went by", x.beats(), before + beats);
                Checks.due("8 what is behind them", Checks.look(x), Checks.look(y));
            }
        }
    }

    /** 8: "Returns how many cadences there are in them", and not in those before. */
    private static void singCountsItsOwnCadences() {
        TeapotChoir none = Choirs.behindClash();
        Checks.due("8 one in the first beat", none.sing(1), 1);
        Checks.due("8 none in 60 more", none.sing(60), 0);
        TeapotChoir two = Choirs.cracking();
        Checks.due("8 out of 30 to 29, and out of 25 to 24", two.sing(60), 2);
        Checks.due("8 none behind them", two.sing(60), 0);
        TeapotChoir parts = Choirs.cracking();
        Checks.due("8 the beats 0 and 1", parts.sing(2), 1);
        Checks.due("8 the beats 2 to 5", parts.sing(4), 0);
        Checks.due("8 the beat 6", parts.sing(1), 1);
    }

    /** 8: without pots the beats go by all the same. */
    private static void singWithoutPots() {
        TeapotChoir x = new TeapotChoir();
        Checks.due("8 no cadence", x.sing(60), 0);
        Checks.due("8 its beats", x.beats(), 60);
        x.addPot(0, 24, 20);
        x.sing(1);
        Checks.due("8 4 divides the beat 60", x.crackOf(0), 1);
    }

    /** 9: "Returns how many pots there are." */
    private static void potsCountFrom0To10() {
        TeapotChoir x = new TeapotChoir();
        for (int pot = 0; pot < 10; pot++) {
            Checks.due("9 pots()", x.pots(), pot);
            Checks.dueThrow("9 refused", Checks.BAD, () -> x.addPot(0, 0, 21));
            Checks.due("9 pots() behind a refused one", x.pots(), pot);
            x.addPot(0, 0, 0);
        }
        Checks.dueThrow("9 refused", Checks.FULL, () -> x.addPot(0, 0, 0));
        Checks.due("9 pots() at most", x.pots(), 10);
    }

    /** 10 to 14: the first and the last of ten tell their own. */
    private static void firstAndLastPot() {
        TeapotChoir x = new TeapotChoir();
        for (int pot = 0; pot < 10; pot++) {
            x.addPot(pot / 3, pot == 9 ? 35 : pot, pot == 0 ? 20 : pot);
        }
        x.turnCosy(0);
        x.sing(1);
        int[] got = {x.partOf(0), x.pitchOf(0), x.teaOf(0), x.crackOf(0), x.sounds(0) ? 1 : 0};
        int[] last = {x.partOf(9), x.pitchOf(9), x.teaOf(9), x.crackOf(9), x.sounds(9) ? 1 : 0};
        int[] want = {0, 0, 20, 0, 0};
        int[] wantLast = {3, 35, 8, 1, 1};
        for (int i = 0; i < 5; i++) {
            Checks.due((10 + i) + " of the pot 0", got[i], want[i]);
            Checks.due((10 + i) + " of the pot 9", last[i], wantLast[i]);
        }
    }

    /** 15: "IndexOutOfBoundsException if part is not 0 to 3". */
    private static void soundingOfPartsOutside() {
        for (int part : new int[] {-1, 4, Checks.LEAST, Checks.MOST}) {
            Checks.dueRefusedByAll("15 soundingOf(" + part + ")", Checks.NO_POT, x -> x.soundingOf(part));
        }
    }

    /** 15: "Returns how many pots of it sound." */
    private static void soundingOfFrom0To10() {
        for (int part = 0; part <= 3; part++) {
            TeapotChoir x = new TeapotChoir();
            for (int pot = 0; pot < 10; pot++) {
                Checks.due("15 so many", x.soundingOf(part), pot);
                x.addPot(part, 0, 1);
            }
            Checks.due("15 all of ten", x.soundingOf(part), 10);
            Checks.due("15 of another part", x.soundingOf((part + 1) % 4), 0);
            x.turnCosy(0);
            x.mend(9);
            Checks.due("15 a mute and an empty one less", x.soundingOf(part), 8);
            x.sing(1);
            Checks.due("15 none", x.soundingOf(part), 0);
        }
    }
}
