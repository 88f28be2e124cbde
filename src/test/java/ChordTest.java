/** Promises 16 to 26: the chord. */
public final class ChordTest {
    private static final Class<IndexOutOfBoundsException> NO_POT = IndexOutOfBoundsException.class;
    private static final int[] NOT_THERE = {-1, 4, 10, Integer.MIN_VALUE, Integer.MAX_VALUE};

    private ChordTest() {
    }

    public static void main(String[] args) {
        promise16Beats();
        promise17Sounding();
        promise18Interval();
        promise19AreInAccord();
        promise20Harmony();
        promise21Clashes();
        promise22ClashesOf();
        promise23Harshest();
        promise24Lowest();
        promise25IsClear();
        promise26Cadences();
        promise26CadencesByHand();
        promise26CadencesByCracks();
        Checks.end();
    }

    private static void promise16Beats() {
        TeapotChoir x = Choirs.chord();
        Checks.due("16 at first", x.beats(), 0);
        x.sing(1);
        x.sing(60);
        x.addPot(0, 0, 20);
        x.harmonyIn(60);
        Checks.due("16 behind 61", x.beats(), 61);
    }

    private static void promise17Sounding() {
        TeapotChoir x = Choirs.chord(0, 1, 2, 3);
        Checks.due("17 all", x.sounding(), 4);
        x.turnCosy(0);
        Checks.due("17 a cosy less", x.sounding(), 3);
        x.mend(3);
        Checks.due("17 an empty one less", x.sounding(), 2);
        x.turnCosy(3);
        Checks.due("17 empty with a cosy on", x.sounding(), 2);
        x.sing(20);
        Checks.due("17 none", x.sounding(), 0);
    }

    private static void promise18Interval() {
        TeapotChoir x = Choirs.chord(0, 35, 12, 12);
        x.turnCosy(1);
        Checks.due("18 upwards", x.interval(0, 1), 35);
        Checks.due("18 downwards", x.interval(1, 0), 35);
        Checks.due("18 an octave", x.interval(0, 2), 12);
        Checks.due("18 the same pitch", x.interval(2, 3), 0);
        Checks.due("18 with itself", x.interval(1, 1), 0);
        for (int pot : NOT_THERE) {
            Checks.dueRefused("18 interval(" + pot + ", 0)", NO_POT, x, () -> x.interval(pot, 0));
            Checks.dueRefused("18 interval(0, " + pot + ")", NO_POT, x, () -> x.interval(0, pot));
        }
    }

    private static void promise19AreInAccord() {
        String steps = "x..xxx.xxx..";
        TeapotChoir x = Choirs.chord(0, 35);
        for (int pitch = 0; pitch < 36; pitch++) {
            TeapotChoir y = Choirs.chord(0, pitch, 35);
            boolean want = steps.charAt(pitch % 12) == 'x';
            Checks.due("19 an interval of " + pitch, y.areInAccord(0, 1), want);
            Checks.due("19 the other way round", y.areInAccord(1, 0), want);
            Checks.due("19 from above", y.areInAccord(2, 1), steps.charAt((35 - pitch) % 12) == 'x');
        }
        Checks.due("19 with itself", x.areInAccord(1, 1), true);
        Checks.due("19 35 leaves 11", x.areInAccord(0, 1), false);
        x.tune(1, -3);
        x.turnCosy(0);
        x.mend(1);
        Checks.due("19 whether they sound or not", x.areInAccord(0, 1), true);
        TeapotChoir z = Choirs.chord(0, 0, 0, 0);
        for (int pot : NOT_THERE) {
            Checks.dueRefused("19 areInAccord(" + pot + ", 0)", NO_POT, z, () -> z.areInAccord(pot, 0));
            Checks.dueRefused("19 areInAccord(0, " + pot + ")", NO_POT, z, () -> z.areInAccord(0, pot));
        }
    }

    private static void promise20Harmony() {
        Checks.due("20 without pots", Choirs.chord().harmony(), 0);
        Checks.due("20 one pot", Choirs.chord(0).harmony(), 0);
        Checks.due("20 an accord", Choirs.chord(0, 4).harmony(), 1);
        Checks.due("20 a clash", Choirs.chord(0, 1).harmony(), -1);
        Checks.due("20 ten of one pitch", Choirs.chord(5, 5, 5, 5, 5, 5, 5, 5, 5, 5).harmony(), 45);
        TeapotChoir x = Choirs.chord(0, 4, 8, 1);
        Checks.due("20 five accords, a clash", x.harmony(), 4);
        x.turnCosy(3);
        Checks.due("20 three accords", x.harmony(), 3);
        x.turnCosy(3);
        x.mend(1);
        Checks.due("20 two accords, a clash", x.harmony(), 1);
    }

    private static void promise21Clashes() {
        Checks.due("21 without pots", Choirs.chord().clashes(), 0);
        Checks.due("21 one pot", Choirs.chord(0).clashes(), 0);
        Checks.due("21 an accord", Choirs.chord(0, 4).clashes(), 0);
        Checks.due("21 all clash", Choirs.chord(0, 1, 2, 12 + 1).clashes(), 5);
        TeapotChoir x = Choirs.chord(0, 1, 2);
        Checks.due("21 three", x.clashes(), 3);
        x.turnCosy(1);
        Checks.due("21 one", x.clashes(), 1);
        x.mend(0);
        Checks.due("21 none", x.clashes(), 0);
    }

    private static void promise22ClashesOf() {
        TeapotChoir x = Choirs.chord(0, 1, 2, 4);
        int[] want = {2, 2, 3, 1};
        for (int pot = 0; pot < 4; pot++) {
            Checks.due("22 clashesOf(" + pot + ")", x.clashesOf(pot), want[pot]);
        }
        x.turnCosy(2);
        Checks.due("22 if it does not sound", x.clashesOf(2), 0);
        Checks.due("22 with those that sound", x.clashesOf(0), 1);
        x.mend(0);
        Checks.due("22 without tea", x.clashesOf(0), 0);
        Checks.due("22 with none", x.clashesOf(1), 0);
        for (int pot : NOT_THERE) {
            Checks.dueRefused("22 clashesOf(" + pot + ")", NO_POT, x, () -> x.clashesOf(pot));
        }
    }

    private static void promise23Harshest() {
        Checks.due("23 without pots", Choirs.chord().harshest(), -1);
        Checks.due("23 no clashes", Choirs.chord(0, 4, 8).harshest(), -1);
        Checks.due("23 a single clash", Choirs.chord(0, 5, 1).harshest(), 0);
        Checks.due("23 a single clash of the last ones", Choirs.chord(5, 0, 1).harshest(), 1);
        TeapotChoir x = Choirs.chord(0, 5, 1, 12);
        Checks.due("23 the most", x.harshest(), 2);
        x.tune(1, 1);
        Checks.due("23 of several the smallest number", x.harshest(), 0);
        x.turnCosy(0);
        Checks.due("23 of those that sound", x.harshest(), 3);
        x.mend(3);
        Checks.due("23 no clashes left", x.harshest(), -1);
    }

    private static void promise24Lowest() {
        Checks.due("24 without pots", Choirs.chord().lowest(), -1);
        Checks.due("24 the first", Choirs.chord(3, 35, 4).lowest(), 0);
        TeapotChoir x = Choirs.chord(35, 3, 3, 0);
        Checks.due("24 the lowest", x.lowest(), 3);
        x.turnCosy(3);
        Checks.due("24 of two the smaller number", x.lowest(), 1);
        x.mend(1);
        Checks.due("24 the other one", x.lowest(), 2);
        x.mend(2);
        Checks.due("24 the highest pitch", x.lowest(), 0);
        x.mend(0);
        Checks.due("24 none sounds", x.lowest(), -1);
    }

    private static void promise25IsClear() {
        Checks.due("25 without pots", Choirs.chord().isClear(), false);
        Checks.due("25 two pots", Choirs.chord(0, 4).isClear(), false);
        Checks.due("25 three pots", Choirs.chord(0, 4, 8).isClear(), true);
        Checks.due("25 four pots", Choirs.chord(0, 4, 8, 20).isClear(), true);
        TeapotChoir x = Choirs.chord(0, 4, 8, 1);
        Checks.due("25 a clash", x.isClear(), false);
        x.turnCosy(3);
        Checks.due("25 it is muted", x.isClear(), true);
        x.turnCosy(0);
        Checks.due("25 too few sound", x.isClear(), false);
    }

    private static void promise26Cadences() {
        TeapotChoir x = Choirs.chord(0, 4, 8);
        x.sing(1);
        Checks.due("26 none in the beat 0", x.cadences(), 0);
        x.addPot(0, 1, 2);
        x.sing(2);
        Checks.due("26 none yet", x.cadences(), 0);
        x.sing(1);
        Checks.due("26 as the clash has no tea left", x.cadences(), 1);
        x.sing(1);
        Checks.due("26 only once", x.cadences(), 1);
        TeapotChoir y = Choirs.chord(0, 4, 1);
        y.sing(1);
        y.mend(2);
        y.sing(1);
        Checks.due("26 none if two pots sound", y.cadences(), 0);
        y.fill(2);
        y.tune(2, 7);
        y.sing(1);
        Checks.due("26 none if the clash was earlier", y.cadences(), 0);
    }

    /** What is done by hand between two beats counts for the chord of the next one alone. */
    private static void promise26CadencesByHand() {
        TeapotChoir x = Choirs.chord(0, 4, 8, 1);
        x.turnCosy(3);
        x.sing(1);
        x.turnCosy(3);
        x.turnCosy(3);
        x.sing(1);
        Checks.due("26 a clash that no beat saw", x.cadences(), 0);
        x.turnCosy(3);
        x.sing(1);
        x.turnCosy(3);
        x.turnCosy(3);
        x.turnCosy(3);
        x.sing(1);
        Checks.due("26 muted in time", x.cadences(), 1);
        x.tune(0, 2);
        x.sing(1);
        x.tune(0, -2);
        x.sing(1);
        Checks.due("26 tuned in time", x.cadences(), 2);
    }

    /** The clash is told as the beat began: the pitch that falls in it is the next chord's. */
    private static void promise26CadencesByCracks() {
        TeapotChoir x = Choirs.cracking();
        Checks.due("26 a clash of 30", x.clashes(), 2);
        Checks.due("26 none in the beat with the clash", x.sing(1), 0);
        Checks.due("26 an accord of 29", x.pitchOf(0), 29);
        Checks.due("26 the next one has the cadence", x.sing(1), 1);
        Checks.due("26 in all", x.cadences(), 1);
    }
}
