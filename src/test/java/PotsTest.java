/** Promises 1 to 15: a new object, what is done to pots, and what pots are. */
public final class PotsTest {
    private static final Class<IndexOutOfBoundsException> NO_POT = IndexOutOfBoundsException.class;
    private static final Class<IllegalArgumentException> BAD = IllegalArgumentException.class;
    private static final Class<IllegalStateException> FULL = IllegalStateException.class;
    private static final int LEAST = Integer.MIN_VALUE;
    private static final int MOST = Integer.MAX_VALUE;

    private PotsTest() {
    }

    public static void main(String[] args) {
        promise1NewObject();
        promise2AddPot();
        promise3Tune();
        promise4TurnCosy();
        promise5Pour();
        promise6Fill();
        promise7Mend();
        promise8SingTea();
        promise8SingCrack();
        promise8SingPitch();
        promise8SingCosy();
        promise8SingCadences();
        promise8SingWrong();
        promise9Pots();
        promises10To14WhatAPotIs();
        promise15SoundingOf();
        Checks.end();
    }

    /** A pot of each kind: one that sounds, one without tea, one with a cosy on. */
    private static TeapotChoir three() {
        TeapotChoir x = new TeapotChoir();
        x.addPot(1, 10, 5);
        x.addPot(2, 20, 0);
        x.addPot(3, 30, 15);
        x.turnCosy(2);
        return x;
    }

    private static TeapotChoir alone(int pitch, int tea) {
        TeapotChoir x = new TeapotChoir();
        x.addPot(0, pitch, tea);
        return x;
    }

    private static void promise1NewObject() {
        TeapotChoir x = new TeapotChoir();
        Checks.due("1 pots()", x.pots(), 0);
        Checks.due("1 beats()", x.beats(), 0);
        Checks.due("1 cadences()", x.cadences(), 0);
        Checks.due("1 sounding()", x.sounding(), 0);
        TeapotChoir y = new TeapotChoir();
        y.addPot(0, 0, 20);
        y.sing(1);
        Checks.due("1 another object's pots()", x.pots(), 0);
        Checks.due("1 another object's beats()", x.beats(), 0);
    }

    private static void promise2AddPot() {
        TeapotChoir x = new TeapotChoir();
        int[][] wrong = {
            {-1, 0, 0}, {4, 0, 0}, {0, -1, 0}, {0, 36, 0}, {0, 0, -1}, {0, 0, 21},
            {LEAST, 0, 0}, {MOST, 0, 0}, {0, LEAST, 0}, {0, MOST, 0}, {0, 0, LEAST}, {0, 0, MOST},
        };
        refuseAll(x, wrong, BAD);
        Checks.due("2 the first", x.addPot(0, 0, 0), 0);
        Checks.due("2 the second", x.addPot(3, 35, 20), 1);
        Checks.due("2 its part", x.partOf(1), 3);
        Checks.due("2 its pitch", x.pitchOf(1), 35);
        Checks.due("2 its tea", x.teaOf(1), 20);
        Checks.due("2 its crack", x.crackOf(1), 0);
        Checks.due("2 it has no cosy on", x.sounds(1), true);
        for (int pot = 2; pot < 10; pot++) {
            Checks.due("2 pot " + pot, x.addPot(1, pot, pot), pot);
        }
        Checks.dueRefused("2 an eleventh", FULL, x, () -> x.addPot(0, 0, 0));
        refuseAll(x, wrong, BAD);
    }

    private static void refuseAll(TeapotChoir x, int[][] wrong, Class<? extends RuntimeException> why) {
        for (int[] w : wrong) {
            String call = "2 addPot(" + w[0] + ", " + w[1] + ", " + w[2] + ")";
            Checks.dueRefused(call, why, x, () -> x.addPot(w[0], w[1], w[2]));
        }
    }

    private static void promise3Tune() {
        TeapotChoir x = three();
        Checks.due("3 up", x.tune(0, 12), 22);
        Checks.due("3 down", x.tune(0, -12), 10);
        Checks.due("3 not at all", x.tune(0, 0), 10);
        Checks.due("3 to the bottom", x.tune(0, -10), 0);
        Checks.due("3 the pitch stays", x.pitchOf(0), 0);
        Checks.due("3 to the top, with a cosy on", x.tune(2, 5), 35);
        Checks.due("3 without tea", x.tune(1, 1), 21);
        Checks.due("3 the crack stays", x.crackOf(2), 0);
        Checks.dueRefused("3 below 0", BAD, x, () -> x.tune(0, -1));
        Checks.dueRefused("3 above 35", BAD, x, () -> x.tune(2, 1));
        for (int by : new int[] {13, -13, LEAST, MOST}) {
            Checks.dueRefused("3 tune(1, " + by + ")", BAD, x, () -> x.tune(1, by));
        }
        for (int pot : new int[] {-1, 3, 10, LEAST, MOST}) {
            Checks.dueRefused("3 tune(" + pot + ", 1)", NO_POT, x, () -> x.tune(pot, 1));
            Checks.dueRefused("3 tune(" + pot + ", 13)", NO_POT, x, () -> x.tune(pot, 13));
        }
    }

    private static void promise4TurnCosy() {
        TeapotChoir x = three();
        Checks.due("4 on", x.turnCosy(0), true);
        Checks.due("4 it is mute", x.sounds(0), false);
        Checks.due("4 off", x.turnCosy(0), false);
        Checks.due("4 it sounds", x.sounds(0), true);
        Checks.due("4 off pot 2", x.turnCosy(2), false);
        Checks.due("4 on without tea", x.turnCosy(1), true);
        Checks.due("4 tea and crack stay", x.teaOf(0) * 10 + x.crackOf(0), 50);
        for (int pot : new int[] {-1, 3, 10, LEAST, MOST}) {
            Checks.dueRefused("4 turnCosy(" + pot + ")", NO_POT, x, () -> x.turnCosy(pot));
        }
    }

    private static void promise5Pour() {
        TeapotChoir x = three();
        Checks.due("5 as much as told", x.pour(0, 1, 2), 2);
        Checks.due("5 it is less there", x.teaOf(0), 3);
        Checks.due("5 it is more here", x.teaOf(1), 2);
        Checks.due("5 as there is room", x.pour(1, 2, 20), 2);
        Checks.due("5 as there is", x.pour(1, 0, 1), 0);
        Checks.due("5 up to the brim", x.pour(0, 2, 20), 3);
        Checks.due("5 full", x.teaOf(2), 20);
        Checks.due("5 from an empty one into a full one", x.pour(0, 2, 1), 0);
        x.fill(0);
        Checks.due("5 into a full one", x.pour(0, 2, 20), 0);
        Checks.due("5 all of it", x.pour(0, 1, 20), 20);
        x.pour(1, 0, 10);
        Checks.due("5 as the other has room for", x.pour(2, 0, 20), 10);
        for (int tea : new int[] {0, -1, 21, LEAST, MOST}) {
            Checks.dueRefused("5 pour(2, 1, " + tea + ")", BAD, x, () -> x.pour(2, 1, tea));
        }
        Checks.dueRefused("5 into itself", BAD, x, () -> x.pour(2, 2, 1));
        for (int pot : new int[] {-1, 3, 10, LEAST, MOST}) {
            Checks.dueRefused("5 pour(" + pot + ", 0, 1)", NO_POT, x, () -> x.pour(pot, 0, 1));
            Checks.dueRefused("5 pour(0, " + pot + ", 1)", NO_POT, x, () -> x.pour(0, pot, 1));
            Checks.dueRefused("5 pour(" + pot + ", 0, 0)", NO_POT, x, () -> x.pour(pot, 0, 0));
            Checks.dueRefused("5 pour both " + pot, NO_POT, x, () -> x.pour(pot, pot, 1));
        }
    }

    private static void promise6Fill() {
        TeapotChoir x = three();
        Checks.due("6 from 5", x.fill(0), 15);
        Checks.due("6 its tea", x.teaOf(0), 20);
        Checks.due("6 a full one", x.fill(0), 0);
        Checks.due("6 an empty one", x.fill(1), 20);
        Checks.due("6 it sounds", x.sounds(1), true);
        Checks.due("6 with a cosy on", x.fill(2), 5);
        Checks.due("6 the cosy stays", x.sounds(2), false);
        for (int pot : new int[] {-1, 3, 10, LEAST, MOST}) {
            Checks.dueRefused("6 fill(" + pot + ")", NO_POT, x, () -> x.fill(pot));
        }
    }

    private static void promise7Mend() {
        TeapotChoir x = alone(30, 20);
        x.addPot(1, 30, 20);
        x.sing(5);
        Checks.due("7 its crack before", x.mend(0), 2);
        Checks.due("7 its crack", x.crackOf(0), 0);
        Checks.due("7 its tea", x.teaOf(0), 0);
        Checks.due("7 its pitch", x.pitchOf(0), 30);
        Checks.due("7 the other one", x.crackOf(1), 2);
        Checks.due("7 again", x.mend(0), 0);
        x.turnCosy(1);
        x.mend(1);
        x.fill(1);
        Checks.due("7 the cosy stays", x.sounds(1), false);
        for (int pot : new int[] {-1, 2, 10, LEAST, MOST}) {
            Checks.dueRefused("7 mend(" + pot + ")", NO_POT, x, () -> x.mend(pot));
        }
    }

    private static void promise8SingTea() {
        TeapotChoir x = three();
        Checks.due("8 one beat", x.sing(1), 0);
        Checks.due("8 beats", x.beats(), 1);
        Checks.due("8 a pot that sounds", x.teaOf(0), 4);
        Checks.due("8 a pot without tea", x.teaOf(1), 0);
        Checks.due("8 a pot with a cosy on", x.teaOf(2), 15);
        x.sing(3);
        Checks.due("8 three beats more", x.teaOf(0), 1);
        x.sing(60);
        Checks.due("8 all is sung away", x.teaOf(0), 0);
        Checks.due("8 64 beats", x.beats(), 64);
    }

    /** The crack comes in the beats 0, 4, 8 ..; a crack of 3 costs tea from the beat behind it on. */
    private static void promise8SingCrack() {
        TeapotChoir x = alone(24, 20);
        TeapotChoir low = alone(23, 20);
        int[] crack = {1, 1, 1, 1, 2, 2, 2, 2, 3, 3, 3, 3, 4, 4};
        int[] tea = {19, 18, 17, 16, 15, 14, 13, 12, 11, 9, 7, 5, 3, 1};
        for (int beat = 0; beat < crack.length; beat++) {
            x.sing(1);
            low.sing(1);
            Checks.due("8 crack behind the beat " + beat, x.crackOf(0), crack[beat]);
            Checks.due("8 tea behind the beat " + beat, x.teaOf(0), tea[beat]);
            Checks.due("8 a low one's crack", low.crackOf(0), 0);
        }
        x.sing(1);
        Checks.due("8 never less than no tea", x.teaOf(0), 0);
        x.sing(10);
        Checks.due("8 a silent one's crack", x.crackOf(0), 4);
    }

    /** A crack of 5 lowers the pitch in the very beat that makes it, and a crack is 9 at most. */
    private static void promise8SingPitch() {
        TeapotChoir x = alone(35, 20);
        crackTo(x, 4);
        Checks.due("8 a crack of 4 leaves the pitch", x.pitchOf(0), 35);
        singToNextFour(x);
        Checks.due("8 still", x.pitchOf(0), 35);
        x.sing(1);
        Checks.due("8 the crack that is 5", x.crackOf(0), 5);
        Checks.due("8 lowers the pitch at once", x.pitchOf(0), 34);
        x.tune(0, 1);
        crackTo(x, 9);
        singToNextFour(x);
        x.tune(0, 35 - x.pitchOf(0));
        x.fill(0);
        x.sing(1);
        Checks.due("8 a crack is 9 at most", x.crackOf(0), 9);
        Checks.due("8 a crack of 9 costs four", x.teaOf(0), 16);
        x.tune(0, -12);
        x.tune(0, -12);
        x.tune(0, 1 - x.pitchOf(0));
        x.sing(1);
        Checks.due("8 down to 0", x.pitchOf(0), 0);
        Checks.due("8 four less", x.teaOf(0), 12);
        x.sing(1);
        Checks.due("8 never less than 0", x.pitchOf(0), 0);
        x.pour(0, x.addPot(0, 0, 19), 1);
        Checks.due("8 tea left", x.teaOf(0), 7);
        x.sing(2);
        Checks.due("8 never less than no tea", x.teaOf(0), 0);
    }

    private static void crackTo(TeapotChoir x, int crack) {
        for (int beat = 0; beat < 60 && x.crackOf(0) < crack; beat++) {
            x.fill(0);
            x.tune(0, Math.min(12, 35 - x.pitchOf(0)));
            x.sing(1);
        }
    }

    private static void singToNextFour(TeapotChoir x) {
        for (int beat = 0; beat < 4 && x.beats() % 4 != 0; beat++) {
            x.fill(0);
            x.sing(1);
        }
    }

    /** Under a cosy the crack heals in the beats 0, 3, 6 .., and nothing else happens. */
    private static void promise8SingCosy() {
        TeapotChoir x = alone(30, 20);
        x.sing(5);
        x.turnCosy(0);
        Checks.due("8 crack", x.crackOf(0), 2);
        x.sing(1);
        Checks.due("8 crack behind the beat 5", x.crackOf(0), 2);
        x.sing(1);
        Checks.due("8 crack behind the beat 6", x.crackOf(0), 1);
        x.sing(2);
        Checks.due("8 crack behind the beat 8", x.crackOf(0), 1);
        x.sing(1);
        Checks.due("8 crack behind the beat 9", x.crackOf(0), 0);
        x.sing(3);
        Checks.due("8 never less than 0", x.crackOf(0), 0);
        Checks.due("8 its tea", x.teaOf(0), 15);
        TeapotChoir y = alone(30, 6);
        y.sing(5);
        y.mend(0);
        y.fill(0);
        y.sing(4);
        y.turnCosy(0);
        y.pour(0, y.addPot(0, 0, 0), 20);
        y.sing(4);
        Checks.due("8 under a cosy without tea it heals as well", y.crackOf(0), 0);
        TeapotChoir z = alone(30, 5);
        z.sing(9);
        Checks.due("8 without tea and cosy it does not heal", z.crackOf(0), 2);
    }

    private static void promise8SingCadences() {
        TeapotChoir x = new TeapotChoir();
        x.addPot(0, 0, 20);
        x.addPot(0, 4, 20);
        x.addPot(0, 8, 20);
        x.addPot(0, 1, 3);
        Checks.due("8 a clash for 3 beats, then a cadence", x.sing(5), 1);
        Checks.due("8 none without a clash ahead", x.sing(5), 0);
        x.fill(3);
        x.sing(1);
        x.mend(3);
        Checks.due("8 one more, told alone", x.sing(1), 1);
        Checks.due("8 two in all", x.cadences(), 2);
        x.fill(3);
        x.mend(3);
        Checks.due("8 a clash between two beats is none", x.sing(1), 0);
    }

    private static void promise8SingWrong() {
        TeapotChoir x = three();
        for (int beats : new int[] {0, -1, 61, LEAST, MOST}) {
            Checks.dueRefused("8 sing(" + beats + ")", BAD, x, () -> x.sing(beats));
        }
        x.sing(60);
        Checks.due("8 60 beats", x.beats(), 60);
    }

    private static void promise9Pots() {
        TeapotChoir x = new TeapotChoir();
        for (int pot = 0; pot < 10; pot++) {
            Checks.due("9 pots()", x.pots(), pot);
            x.addPot(0, 0, pot % 2);
        }
        Checks.due("9 pots()", x.pots(), 10);
    }

    private static void promises10To14WhatAPotIs() {
        TeapotChoir x = three();
        for (int pot = 0; pot < 3; pot++) {
            Checks.due("10 partOf(" + pot + ")", x.partOf(pot), pot + 1);
            Checks.due("11 pitchOf(" + pot + ")", x.pitchOf(pot), 10 * (pot + 1));
            Checks.due("12 teaOf(" + pot + ")", x.teaOf(pot), new int[] {5, 0, 15}[pot]);
            Checks.due("13 crackOf(" + pot + ")", x.crackOf(pot), 0);
            Checks.due("14 sounds(" + pot + ")", x.sounds(pot), pot == 0);
        }
        x.turnCosy(2);
        Checks.due("14 without the cosy", x.sounds(2), true);
        x.sing(1);
        Checks.due("13 a crack", x.crackOf(2), 1);
        x.turnCosy(1);
        Checks.due("14 neither tea nor bare", x.sounds(1), false);
        for (int pot : new int[] {-1, 3, 10, LEAST, MOST}) {
            Checks.dueRefused("10 partOf(" + pot + ")", NO_POT, x, () -> x.partOf(pot));
            Checks.dueRefused("11 pitchOf(" + pot + ")", NO_POT, x, () -> x.pitchOf(pot));
            Checks.dueRefused("12 teaOf(" + pot + ")", NO_POT, x, () -> x.teaOf(pot));
            Checks.dueRefused("13 crackOf(" + pot + ")", NO_POT, x, () -> x.crackOf(pot));
            Checks.dueRefused("14 sounds(" + pot + ")", NO_POT, x, () -> x.sounds(pot));
        }
    }

    private static void promise15SoundingOf() {
        TeapotChoir x = three();
        x.addPot(1, 0, 1);
        x.addPot(0, 0, 1);
        int[] want = {1, 2, 0, 0};
        for (int part = 0; part < 4; part++) {
            Checks.due("15 soundingOf(" + part + ")", x.soundingOf(part), want[part]);
        }
        x.turnCosy(2);
        Checks.due("15 without the cosy", x.soundingOf(3), 1);
        for (int part : new int[] {-1, 4, LEAST, MOST}) {
            Checks.dueRefused("15 soundingOf(" + part + ")", NO_POT, x, () -> x.soundingOf(part));
        }
    }
}
