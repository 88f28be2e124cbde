/** Choirs that several tests begin with. */
final class Choirs {
    private Choirs() {
    }

    /** Pots that all sound, with these pitches. */
    static TeapotChoir chord(int... pitches) {
        TeapotChoir x = new TeapotChoir();
        for (int pitch : pitches) {
            x.addPot(0, pitch, 20);
        }
        return x;
    }

    /** A pot of the pitch 30 with a crack of 4, full, as a beat comes that 4 divides; two of the pitch 0 sound too. */
    static TeapotChoir cracking() {
        TeapotChoir x = chord(30, 0, 0);
        x.turnCosy(1);
        x.turnCosy(2);
        for (int beat = 0; beat < 60 && !(x.crackOf(0) == 4 && x.beats() % 4 == 0); beat++) {
            x.fill(0);
            x.sing(1);
        }
        x.turnCosy(1);
        x.turnCosy(2);
        x.fill(0);
        return x;
    }

    /**
     * A pot 0 of this pitch, tea and crack, as a beat comes of which 12 leaves this; the pot 1 is a spare one,
     * empty and with a cosy on.
     */
    static TeapotChoir worn(int pitch, int tea, int crack, int beatInTwelve) {
        TeapotChoir x = chord(35, 0);
        x.turnCosy(1);
        for (int grown = 0; grown < crack; grown++) {
            x.fill(0);
            x.sing(4);
            x.tune(0, 35 - x.pitchOf(0));
        }
        // Without tea and without a cosy the pot stays as it is, for as many beats as there have to go by.
        leaveTea(x, 0);
        int ahead = Math.floorMod(beatInTwelve - x.beats(), 12);
        if (ahead > 0) {
            x.sing(ahead);
        }
        tuneTo(x, 0, pitch);
        leaveTea(x, tea);
        return x;
    }

    /** The spare pot takes what is too much, and loses it. */
    private static void leaveTea(TeapotChoir x, int tea) {
        x.fill(0);
        x.mend(1);
        if (tea < 20) {
            x.pour(0, 1, 20 - tea);
        }
        x.mend(1);
    }

    static void tuneTo(TeapotChoir x, int pot, int pitch) {
        for (int turn = 0; turn < 3; turn++) {
            x.tune(pot, Math.max(-12, Math.min(12, pitch - x.pitchOf(pot))));
        }
    }

    /** Pots with cracks; the chord is clear behind a clash; the last pot is empty and has a cosy on. */
    static TeapotChoir behindClash() {
        TeapotChoir x = new TeapotChoir();
        x.addPot(0, 24, 20);
        x.addPot(1, 28, 11);
        x.addPot(2, 32, 7);
        x.addPot(3, 25, 20);
        x.addPot(3, 0, 0);
        x.turnCosy(4);
        x.sing(1);
        x.turnCosy(3);
        return x;
    }

    /** As many pots as there can be, of all kinds, clear without a clash in the beat ahead. */
    static TeapotChoir full() {
        TeapotChoir x = new TeapotChoir();
        for (int pot = 0; pot < 10; pot++) {
            x.addPot(pot % 4, new int[] {35, 1, 31, 2, 27, 3, 35, 4, 31, 5}[pot], 20 - 2 * pot);
            if (pot % 2 == 1) {
                x.turnCosy(pot);
            }
        }
        x.sing(1);
        return x;
    }

    /** How many choirs there are to be had from kind(). */
    static final int KINDS = 4;

    /** The same call makes the same choir each time, so that two of them are twins. */
    static TeapotChoir kind(int kind) {
        switch (kind) {
            case 0: return new TeapotChoir();
            case 1: return chord(7);
            case 2: return behindClash();
            default: return full();
        }
    }
}
