/** The sentences of the section "Terms" that name an edge: a method each, with the sentence above it. */
public final class TermsEdgesTest {
    private static final String[] HANDS = {"turnCosy", "tune", "mend", "pour", "fill", "addPot"};

    private TermsEdgesTest() {
    }

    public static void main(String[] args) {
        wornPotsAreAsTold();
        numbers();
        pots();
        intervals();
        chords();
        beatTea();
        beatCracks();
        beatCosies();
        cadences();
        exceptions();
        Checks.end();
    }

    private static void numbers() {
        divisionIsCut();
        timeIsToldFrom0();
    }

    private static void pots() {
        potsAreTenAtMost();
        partsAre0To3();
        pitchesAre0To35();
        teaIs0To20();
        cracksAre0To9();
        noCosyAtFirst();
        potSoundsIfTeaAndNoCosy();
    }

    private static void intervals() {
        intervalIs0OrMore();
        stepsOfAccord();
        harmonyIsOfPairsThatSound();
    }

    private static void chords() {
        clearNeedsThree();
        clearHasNoClash();
        clashNeedsTwoThatSound();
    }

    private static void beatTea() {
        soundsAsTheBeatBegins();
        teaIsAtLeast0();
        teaIsLostByTheCrackBefore();
    }

    private static void beatCracks() {
        cracksFromPitch24();
        cracksIf4Divides();
        crackIsAtMost9();
        pitchFallsFromCrack5();
        pitchIsAtLeast0();
        pitchOf24IsAskedBeforeItFalls();
    }

    private static void beatCosies() {
        healsIf3Divides();
        healsAtLeast0();
        healsUnderCosyAlone();
        cosyKeepsAllElse();
        beatIsOneGreater();
    }

    private static void cadences() {
        noCadenceInTheBeat0();
        cadenceNeedsTheVeryBeatAhead();
        handsCountForTheNextChord();
        handsCountForTheNextChordAlone();
        clashIsToldAsTheBeatBegan();
    }

    private static void exceptions() {
        refusedCallChangesNothing();
        firstNamedIsThrown();
        call512IsAnswered();
    }

    /** The tests below stand on this. */
    private static void wornPotsAreAsTold() {
        for (int crack = 0; crack <= 9; crack++) {
            for (int beat = 0; beat < 12; beat++) {
                TeapotChoir x = Choirs.worn(17, 7, crack, beat);
                dueState("worn", x, 17, 7, crack);
                Checks.due("its beat", x.beats() % 12, beat);
                Checks.due("the spare pot's tea", x.teaOf(1), 0);
            }
        }
    }

    private static void dueState(String what, TeapotChoir x, int pitch, int tea, int crack) {
        Checks.due(what + ": its pitch", x.pitchOf(0), pitch);
        Checks.due(what + ": its tea", x.teaOf(0), tea);
        Checks.due(what + ": its crack", x.crackOf(0), crack);
    }

    /** "All numbers are whole, and / is cut towards 0." */
    private static void divisionIsCut() {
        int[] cost = {1, 1, 1, 2, 2, 2, 3, 3, 3, 4};
        for (int crack = 0; crack <= 9; crack++) {
            TeapotChoir x = Choirs.worn(0, 20, crack, 1);
            x.sing(1);
            Checks.due("a beat with a crack of " + crack + " costs", 20 - x.teaOf(0), cost[crack]);
        }
    }

    /** "Time is told in beats, from 0." */
    private static void timeIsToldFrom0() {
        TeapotChoir x = Choirs.chord(24);
        Checks.due("the time at first", x.beats(), 0);
        x.sing(1);
        Checks.due("4 divides the first beat, for it is the beat 0", x.crackOf(0), 1);
        x.sing(3);
        Checks.due("4 divides none of 1, 2, 3", x.crackOf(0), 1);
        x.sing(1);
        Checks.due("4 divides the fifth, the beat 4", x.crackOf(0), 2);
        Checks.due("the time behind five", x.beats(), 5);
    }

    /** "Teapots. At most 10, numbered from 0". */
    private static void potsAreTenAtMost() {
        TeapotChoir x = new TeapotChoir();
        for (int pot = 0; pot < 10; pot++) {
            Checks.due("the number of the next pot", x.addPot(0, 3 * pot, pot), pot);
        }
        Checks.dueThrow("an eleventh pot", Checks.FULL, () -> x.addPot(0, 30, 10));
        for (int pot = 0; pot < 10; pot++) {
            Checks.due("the pitch of the pot " + pot, x.pitchOf(pot), 3 * pot);
        }
        Checks.dueThrow("the pot 10", Checks.NO_POT, () -> x.pitchOf(10));
        Checks.dueThrow("the pot -1", Checks.NO_POT, () -> x.pitchOf(-1));
    }

    /** "each has a part, 0 to 3". */
    private static void partsAre0To3() {
        TeapotChoir x = new TeapotChoir();
        for (int part = 0; part <= 3; part++) {
            int pot = x.addPot(part, 0, 1);
            Checks.due("the part of a pot", x.partOf(pot), part);
            Checks.due("the part that sounds", x.soundingOf(part), 1);
        }
        Checks.dueThrow("a pot of the part 4", Checks.BAD, () -> x.addPot(4, 0, 1));
        Checks.dueThrow("a pot of the part -1", Checks.BAD, () -> x.addPot(-1, 0, 1));
    }

    /** "a pitch, 0 to 35". */
    private static void pitchesAre0To35() {
        TeapotChoir x = Choirs.chord(0, 35);
        Checks.due("the lowest pitch", x.pitchOf(0), 0);
        Checks.due("the highest pitch", x.pitchOf(1), 35);
        Checks.dueThrow("a pot of the pitch -1", Checks.BAD, () -> x.addPot(0, -1, 1));
        Checks.dueThrow("a pot of the pitch 36", Checks.BAD, () -> x.addPot(0, 36, 1));
        Checks.dueThrow("lower than 0", Checks.BAD, () -> x.tune(0, -1));
        Checks.dueThrow("higher than 35", Checks.BAD, () -> x.tune(1, 1));
    }

    /** "tea, 0 to 20". */
    private static void teaIs0To20() {
        TeapotChoir x = new TeapotChoir();
        x.addPot(0, 0, 0);
        x.addPot(0, 0, 20);
        Checks.due("the least tea", x.teaOf(0), 0);
        Checks.due("the most tea", x.teaOf(1), 20);
        Checks.dueThrow("a pot of less than no tea", Checks.BAD, () -> x.addPot(0, 0, -1));
        Checks.dueThrow("a pot of 21", Checks.BAD, () -> x.addPot(0, 0, 21));
        x.fill(1);
        Checks.due("filled when full", x.teaOf(1), 20);
        x.sing(60);
        Checks.due("sung for 60 beats", x.teaOf(0) + x.teaOf(1), 0);
    }

    /** "a crack, 0 to 9 (0, at first)". */
    private static void cracksAre0To9() {
        Checks.due("the crack of a new high pot", Choirs.chord(35).crackOf(0), 0);
        TeapotChoir later = Choirs.worn(35, 20, 9, 0);
        Checks.due("the crack of a new pot beside a cracked one", later.crackOf(later.addPot(0, 35, 20)), 0);
        for (int round = 0; round < 3; round++) {
            later.fill(0);
            later.sing(4);
            later.tune(0, 4);
        }
        Checks.due("the crack behind three times four beats more", later.crackOf(0), 9);
    }

    /** "and a cosy on, or none (none, at first)". */
    private static void noCosyAtFirst() {
        TeapotChoir x = new TeapotChoir();
        for (int pot = 0; pot < 10; pot++) {
            x.addPot(pot % 4, pot, pot % 2);
            Checks.due("a new pot with tea sounds", x.sounds(pot), pot % 2 == 1);
            Checks.due("the first turn puts a cosy on", x.turnCosy(pot), true);
        }
    }

    /** "It sounds, if it has some tea, and no cosy on." */
    private static void potSoundsIfTeaAndNoCosy() {
        TeapotChoir x = new TeapotChoir();
        for (int tea = 0; tea <= 1; tea++) {
            int pot = x.addPot(0, 0, tea);
            Checks.due("tea " + tea + " and no cosy", x.sounds(pot), tea == 1);
            x.turnCosy(pot);
            Checks.due("tea " + tea + " and a cosy on", x.sounds(pot), false);
            x.turnCosy(pot);
            Checks.due("tea " + tea + " and the cosy off", x.sounds(pot), tea == 1);
        }
        x.sing(1);
        Checks.due("the last tea is sung away", x.sounds(1), false);
    }

    /** "That of two pots is by how much their pitches differ, 0 or more". */
    private static void intervalIs0OrMore() {
        for (int high = 0; high <= 35; high++) {
            for (int by = 0; by <= high; by++) {
                TeapotChoir x = Choirs.chord(high - by, high);
                Checks.due("up by " + by, x.interval(0, 1), by);
                Checks.due("down by " + by, x.interval(1, 0), by);
            }
        }
    }

    /** "divided by 12 it leaves a step. .. in accord, if the step is 0, 3, 4, 5, 7, 8 or 9; otherwise they clash." */
    private static void stepsOfAccord() {
        String accords = "0 3 4 5 7 8 9 12 15 16 17 19 20 21 24 27 28 29 31 32 33";
        for (int by = 0; by <= 35; by++) {
            boolean want = (" " + accords + " ").contains(" " + by + " ");
            TeapotChoir x = Choirs.chord(0, by);
            Checks.due("accord of an interval of " + by, x.areInAccord(0, 1), want);
            Checks.due("clashes of an interval of " + by, x.clashes(), want ? 0 : 1);
            TeapotChoir y = Choirs.chord(35, 35 - by);
            Checks.due("accord from above, " + by, y.areInAccord(0, 1), want);
            Checks.due("clashes from above, " + by, y.clashes(), want ? 0 : 1);
        }
    }

    /** "of all pairs of two pots that sound, those in accord, less those that clash." */
    private static void harmonyIsOfPairsThatSound() {
        Checks.due("harmony without pairs", Choirs.chord(35).harmony(), 0);
        TeapotChoir x = Choirs.chord(0, 1, 4, 5);
        Checks.due("harmony of 4 accords and 2 clashes", x.harmony(), 2);
        x.turnCosy(2);
        Checks.due("harmony of 2 accords and a clash", x.harmony(), 1);
        x.mend(3);
        Checks.due("harmony of a clash", x.harmony(), -1);
        x.turnCosy(0);
        Checks.due("harmony of one that sounds", x.harmony(), 0);
        Checks.due("the greatest of ten", Choirs.chord(0, 0, 0, 0, 0, 12, 24, 24, 24, 24).harmony(), 45);
        // Three sounds that clash with one another, of 4, 3 and 3 pots: 12 pairs are in accord, 33 clash.
        Checks.due("a low one of ten", Choirs.chord(0, 0, 0, 0, 1, 1, 1, 2, 2, 2).harmony(), -21);
    }

    /** "A chord is clear, if three pots at least sound". */
    private static void clearNeedsThree() {
        int[] pitches = {0, 4, 8, 12, 16, 20, 24, 28, 32, 0};
        TeapotChoir x = new TeapotChoir();
        Checks.due("clear without pots", x.isClear(), false);
        for (int pot = 0; pot < 10; pot++) {
            x.addPot(0, pitches[pot], 20);
            Checks.due("clear with " + (pot + 1), x.isClear(), pot >= 2);
        }
        for (int pot = 0; pot < 10; pot++) {
            if (pot % 2 == 0) {
                x.turnCosy(pot);
            } else {
                x.mend(pot);
            }
            Checks.due("clear with " + (9 - pot) + " left", x.isClear(), pot <= 6);
        }
    }

    /** "and no two of them clash". */
    private static void clearHasNoClash() {
        Checks.due("the first two clash", Choirs.chord(0, 1, 4, 8).isClear(), false);
        Checks.due("the last two clash", Choirs.chord(5, 8, 0, 1).isClear(), false);
        Checks.due("the first and the last clash", Choirs.chord(0, 3, 7, 10).isClear(), false);
        TeapotChoir x = Choirs.chord(0, 4, 8, 1, 2);
        x.turnCosy(3);
        x.mend(4);
        Checks.due("those that clash don't sound", x.isClear(), true);
    }

    /** "it is a clash, if some two that sound clash." */
    private static void clashNeedsTwoThatSound() {
        TeapotChoir two = Choirs.chord(0, 1);
        two.sing(1);
        two.tune(1, 3);
        two.addPot(0, 8, 20);
        Checks.due("behind a clash of two pots alone", two.sing(1), 1);
        TeapotChoir mute = Choirs.chord(0, 4, 8, 1);
        mute.turnCosy(3);
        mute.sing(1);
        Checks.due("a pot with a cosy on makes no clash", mute.sing(1), 0);
        TeapotChoir few = Choirs.chord(0, 4);
        few.sing(1);
        few.addPot(0, 8, 20);
        Checks.due("a chord that is not clear is no clash yet", few.sing(1), 0);
    }

    /** "Each pot that sounds, by what sounds as the beat begins". */
    private static void soundsAsTheBeatBegins() {
        TeapotChoir x = Choirs.worn(24, 1, 0, 0);
        x.sing(1);
        dueState("it cracks as its last tea goes", x, 24, 0, 1);
        TeapotChoir y = Choirs.worn(24, 1, 4, 0);
        y.sing(1);
        dueState("it falls as its last tea goes", y, 23, 0, 5);
        y.sing(4);
        dueState("behind it nothing happens to it", y, 23, 0, 5);
        TeapotChoir z = Choirs.worn(35, 0, 9, 0);
        z.sing(1);
        dueState("a pot without tea stays as it is", z, 35, 0, 9);
    }

    /** "its tea is 1 less, and crack / 3 less as well, at least 0." */
    private static void teaIsAtLeast0() {
        int[] cost = {1, 1, 1, 2, 2, 2, 3, 3, 3, 4};
        for (int crack = 0; crack <= 9; crack++) {
            for (int tea = 1; tea <= 20; tea++) {
                TeapotChoir x = Choirs.worn(0, tea, crack, 1);
                x.sing(1);
                int want = tea > cost[crack] ? tea - cost[crack] : 0;
                Checks.due("tea of " + tea + " with a crack of " + crack, x.teaOf(0), want);
            }
        }
    }

    /** The tea is named ahead of the crack's growth, so it is lost by the crack before. */
    private static void teaIsLostByTheCrackBefore() {
        int[] cost = {1, 1, 1, 2, 2, 2, 3, 3, 3, 4};
        for (int crack = 0; crack <= 8; crack++) {
            TeapotChoir x = Choirs.worn(35, 20, crack, 4);
            x.sing(1);
            Checks.due("the crack that grows from " + crack, x.crackOf(0), crack + 1);
            Checks.due("costs", 20 - x.teaOf(0), cost[crack]);
        }
    }

    /** "If its pitch is 24 or more, .. its crack is 1 more". */
    private static void cracksFromPitch24() {
        for (int pitch = 0; pitch <= 35; pitch++) {
            TeapotChoir x = Choirs.worn(pitch, 20, 0, 0);
            x.sing(1);
            dueState("a pitch of " + pitch, x, pitch, 19, pitch < 24 ? 0 : 1);
        }
    }

    /** "and 4 divides the beat". */
    private static void cracksIf4Divides() {
        for (int beat = 0; beat < 12; beat++) {
            TeapotChoir x = Choirs.worn(24, 20, 1, beat);
            x.sing(1);
            boolean grows = beat == 0 || beat == 4 || beat == 8;
            Checks.due("the crack behind the beat " + beat, x.crackOf(0), grows ? 2 : 1);
        }
    }

    /** "at most 9". */
    private static void crackIsAtMost9() {
        TeapotChoir x = Choirs.worn(35, 20, 8, 8);
        x.sing(1);
        dueState("a crack of 8", x, 34, 17, 9);
        TeapotChoir y = Choirs.worn(35, 20, 9, 8);
        y.sing(1);
        dueState("a crack of 9", y, 34, 16, 9);
    }

    /** "If its crack is 5 or more then, its pitch is 1 less". */
    private static void pitchFallsFromCrack5() {
        for (int crack = 0; crack <= 9; crack++) {
            TeapotChoir still = Choirs.worn(30, 20, crack, 5);
            still.sing(1);
            Checks.due("the crack stays " + crack, still.pitchOf(0), crack < 5 ? 30 : 29);
            TeapotChoir grows = Choirs.worn(30, 20, crack, 4);
            grows.sing(1);
            Checks.due("the crack was " + crack + " before", grows.pitchOf(0), crack < 4 ? 30 : 29);
            TeapotChoir low = Choirs.worn(10, 20, crack, 4);
            low.sing(1);
            Checks.due("a low pot's crack of " + crack, low.pitchOf(0), crack < 5 ? 10 : 9);
        }
    }

    /** "at least 0." */
    private static void pitchIsAtLeast0() {
        for (int crack = 5; crack <= 9; crack++) {
            TeapotChoir x = Choirs.worn(1, 20, crack, 1);
            x.sing(1);
            Checks.due("from 1, with a crack of " + crack, x.pitchOf(0), 0);
            x.sing(1);
            Checks.due("from 0, with a crack of " + crack, x.pitchOf(0), 0);
        }
    }

    /** The pitch of 24 is named ahead of its fall, so it still cracks. */
    private static void pitchOf24IsAskedBeforeItFalls() {
        TeapotChoir x = Choirs.worn(24, 20, 5, 8);
        x.sing(1);
        dueState("it cracks at 24 and falls to 23", x, 23, 18, 6);
        x.sing(4);
        dueState("it does not crack at 20", x, 19, 6, 6);
    }

    /** "Each pot with a cosy on: its crack is 1 less, .. if 3 divides the beat." */
    private static void healsIf3Divides() {
        for (int beat = 0; beat < 12; beat++) {
            for (int tea = 0; tea <= 20; tea += 20) {
                TeapotChoir x = Choirs.worn(0, tea, 9, beat);
                x.turnCosy(0);
                x.sing(1);
                Checks.due("tea " + tea + ", behind the beat " + beat, x.crackOf(0), beat % 3 == 0 ? 8 : 9);
            }
        }
    }

    /** "at least 0". */
    private static void healsAtLeast0() {
        TeapotChoir x = Choirs.worn(0, 20, 1, 0);
        x.turnCosy(0);
        x.sing(1);
        Checks.due("a crack of 1 heals", x.crackOf(0), 0);
        x.sing(3);
        Checks.due("a crack of 0 stays", x.crackOf(0), 0);
        TeapotChoir whole = Choirs.chord(0);
        whole.turnCosy(0);
        whole.sing(60);
        Checks.due("a pot that never cracked", whole.crackOf(0), 0);
    }

    /** "Each pot with a cosy on": not one that sounds, and not one that is silent without a cosy. */
    private static void healsUnderCosyAlone() {
        TeapotChoir sounding = Choirs.worn(0, 20, 4, 3);
        sounding.sing(1);
        Checks.due("a pot that sounds does not heal", sounding.crackOf(0), 4);
        TeapotChoir silent = Choirs.worn(0, 0, 4, 3);
        silent.sing(1);
        Checks.due("a pot that is empty does not heal", silent.crackOf(0), 4);
        TeapotChoir off = Choirs.worn(0, 20, 4, 3);
        off.turnCosy(0);
        off.turnCosy(0);
        off.sing(1);
        Checks.due("nor one with the cosy off again", off.crackOf(0), 4);
    }

    /** The beat takes tea and pitch, and makes cracks, of pots that sound alone. */
    private static void cosyKeepsAllElse() {
        TeapotChoir x = Choirs.worn(35, 20, 9, 4);
        x.turnCosy(0);
        x.sing(1);
        dueState("a mute pot, as 4 divides the beat", x, 35, 20, 9);
        TeapotChoir y = Choirs.worn(35, 20, 6, 0);
        y.turnCosy(0);
        y.sing(1);
        dueState("a mute pot, as 12 divides the beat", y, 35, 20, 5);
    }

    /** "The beat is 1 greater." */
    private static void beatIsOneGreater() {
        TeapotChoir x = new TeapotChoir();
        for (int beat = 0; beat < 200; beat++) {
            Checks.due("the beats that went by", x.beats(), beat);
            x.sing(1);
        }
    }

    /** "(There is none in the beat 0.)" */
    private static void noCadenceInTheBeat0() {
        Checks.due("clear from the first", Choirs.chord(0, 4, 8).sing(1), 0);
        TeapotChoir x = Choirs.chord(0, 4, 8, 1);
        x.turnCosy(3);
        Checks.due("out of a clash ahead of the beat 0", x.sing(1), 0);
        Checks.due("in all", x.cadences(), 0);
    }

    /** "and it was a clash in the beat ahead of this one, there is a cadence." */
    private static void cadenceNeedsTheVeryBeatAhead() {
        TeapotChoir x = Choirs.chord(0, 4, 8, 1);
        x.sing(1);
        x.turnCosy(3);
        Checks.due("the beat behind the clash", x.sing(1), 1);
        Checks.due("the beat behind that", x.sing(1), 0);
        TeapotChoir y = Choirs.chord(0, 4, 1);
        y.sing(1);
        y.turnCosy(2);
        Checks.due("two pots are not clear", y.sing(1), 0);
        y.addPot(0, 8, 20);
        Checks.due("the clash is two beats ago", y.sing(1), 0);
    }

    /** "What is done by hand between two beats counts for the chord of the next one": out of a clash. */
    private static void handsCountForTheNextChord() {
        for (int hand = 0; hand < HANDS.length; hand++) {
            TeapotChoir x = Choirs.chord(0, 4, 1);
            x.addPot(0, 8, hand < 4 ? 20 : 0);
            x.addPot(0, 0, 0);
            x.sing(1);
            leaveTheClash(x, hand);
            Checks.due(HANDS[hand] + " makes the next chord clear", x.isClear(), true);
            Checks.due(HANDS[hand] + " makes a cadence", x.sing(1), 1);
        }
    }

    /** The pot 2 clashes; the pot 3 is empty for the last two, so that it takes more than to be rid of the pot 2. */
    private static void leaveTheClash(TeapotChoir x, int hand) {
        switch (hand) {
            case 0: x.turnCosy(2); break;
            case 1: x.tune(2, -1); break;
            case 2: x.mend(2); break;
            case 3: x.pour(2, 4, 20); break;
            case 4: x.mend(2); x.fill(3); break;
            default: x.mend(2); x.addPot(0, 8, 20);
        }
    }

    /** ".. of the next one alone": a clash that is gone as the next beat begins is none. */
    private static void handsCountForTheNextChordAlone() {
        for (int hand = 0; hand < HANDS.length; hand++) {
            TeapotChoir x = Choirs.chord(0, 4, 8);
            x.addPot(0, 1, hand == 0 ? 20 : 0);
            x.addPot(0, 1, 20);
            x.turnCosy(4);
            if (hand == 0) {
                x.turnCosy(3);
            }
            Checks.due("a clear beat ahead of " + HANDS[hand], x.sing(1), 0);
            comeIntoTheClash(x, hand);
            Checks.due(HANDS[hand] + " makes a clash", x.clashes() > 0, true);
            x.turnCosy(0);
            x.turnCosy(0);
            leaveThatClash(x, hand);
            Checks.due("that is over", x.isClear(), true);
            Checks.due("no beat began with it", x.sing(1), 0);
        }
    }

    /** The pot 3 clashes as soon as it sounds; the pot 4 has tea for it, and a cosy on. */
    private static void comeIntoTheClash(TeapotChoir x, int hand) {
        switch (hand) {
            case 0: x.turnCosy(3); break;
            case 1: x.tune(0, 2); break;
            case 3: x.pour(4, 3, 5); break;
            case 5: x.addPot(0, 1, 20); break;
            default: x.fill(3);
        }
    }

    private static void leaveThatClash(TeapotChoir x, int hand) {
        switch (hand) {
            case 0: x.turnCosy(3); break;
            case 1: x.tune(0, -2); break;
            case 3: x.pour(3, 4, 20); break;
            case 5: x.mend(5); break;
            default: x.mend(3);
        }
    }

    /** "whether it was a clash in the beat ahead is told by the chord as that beat began." */
    private static void clashIsToldAsTheBeatBegan() {
        TeapotChoir dies = Choirs.chord(0, 4, 8);
        dies.addPot(0, 1, 1);
        Checks.due("the clash dies in its beat", dies.sing(1), 0);
        Checks.due("it was one as the beat began", dies.sing(1), 1);
        TeapotChoir comes = Choirs.worn(24, 20, 5, 1);
        comes.addPot(0, 0, 20);
        comes.addPot(0, 12, 20);
        Checks.due("clear as the beat begins", comes.isClear(), true);
        comes.sing(1);
        Checks.due("the pitch falls into clashes", comes.clashes(), 2);
        comes.tune(0, 1);
        Checks.due("no beat began with them", comes.sing(1), 0);
    }

    /** "A method that throws an exception changes nothing." Each wrong call, on a choir of each kind. */
    private static void refusedCallChangesNothing() {
        Checks.dueRefusedByAll("addPot of a wrong part", Checks.BAD, x -> x.addPot(4, 0, 1));
        Checks.dueRefusedByAll("addPot of a wrong pitch", Checks.BAD, x -> x.addPot(0, 36, 1));
        Checks.dueRefusedByAll("addPot of wrong tea", Checks.BAD, x -> x.addPot(0, 0, 21));
        Checks.dueRefusedByAll("sing(0)", Checks.BAD, x -> x.sing(0));
        Checks.dueRefusedByAll("sing(61)", Checks.BAD, x -> x.sing(61));
        Checks.dueRefusedByAll("harmonyIn(61)", Checks.BAD, x -> x.harmonyIn(61));
        Checks.dueRefusedByAll("soundingOf(4)", Checks.NO_POT, x -> x.soundingOf(4));
        Checks.dueRefusedBy("an eleventh pot", Checks.FULL, 3, x -> x.addPot(0, 0, 1));
        for (int kind = 1; kind < Choirs.KINDS; kind++) {
            Checks.dueRefusedBy("tune by 13", Checks.BAD, kind, x -> x.tune(0, 13));
            Checks.dueRefusedBy("pour into itself", Checks.BAD, kind, x -> x.pour(0, 0, 1));
        }
        Checks.dueRefusedBy("tune from 7 to -1", Checks.BAD, 1, x -> x.tune(0, -8));
        Checks.dueRefusedBy("tune from 32 to 36", Checks.BAD, 2, x -> x.tune(2, 4));
        for (int kind = 2; kind < Choirs.KINDS; kind++) {
            Checks.dueRefusedBy("pour nothing", Checks.BAD, kind, x -> x.pour(0, 1, 0));
            Checks.dueRefusedBy("pour into no pot", Checks.NO_POT, kind, x -> x.pour(0, 10, 1));
        }
    }

    /** "If several exceptions apply, the one that is named first is thrown." */
    private static void firstNamedIsThrown() {
        Checks.dueRefusedBy("addPot of a wrong part as 11th", Checks.BAD, 3, x -> x.addPot(-1, 0, 0));
        Checks.dueRefusedBy("addPot of a wrong pitch as 11th", Checks.BAD, 3, x -> x.addPot(0, -1, 0));
        Checks.dueRefusedBy("addPot of wrong tea as 11th", Checks.BAD, 3, x -> x.addPot(0, 0, -1));
        Checks.dueRefusedByAll("tune no pot by 13", Checks.NO_POT, x -> x.tune(-1, 13));
        Checks.dueRefusedByAll("tune no pot by -13", Checks.NO_POT, x -> x.tune(10, -13));
        Checks.dueRefusedByAll("pour no pot into itself", Checks.NO_POT, x -> x.pour(10, 10, 1));
        Checks.dueRefusedByAll("pour no tea between no pots", Checks.NO_POT, x -> x.pour(-1, 10, 0));
        Checks.dueRefusedByAll("pour too much into no pot", Checks.NO_POT, x -> x.pour(0, 10, 21));
        Checks.dueRefusedByAll("pour too much out of no pot", Checks.NO_POT, x -> x.pour(10, 0, 21));
    }

    /** "An object is used for at most 512 calls after it has been made". */
    private static void call512IsAnswered() {
        TeapotChoir x = new TeapotChoir();
        int most = 0;
        for (int call = 1; call <= 511; call++) {
            most += x.sing(60);
        }
        Checks.due("cadences in 511 calls without pots", most, 0);
        Checks.due("the call 512", x.beats(), 511 * 60);
    }
}
