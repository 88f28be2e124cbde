/** Choirs that several tests begin with. */
final class Choirs {
    private Choirs() {
    }

    /** Pots that all sound, with these pitches. */
    static TeapotChoir chord(int... pitches) {
        TeapotChoir x = new TeapotChoir();
        for (int pitch : pitches) {
            x.addPot(0, pitch, 20);
        }
        return x;
    }

    /** A pot of the pitch 30 with a crack of 4, full, as a beat comes that 4 divides; two of the pitch 0 sound too. */
    static TeapotChoir cracking() {
        TeapotChoir x = chord(30, 0, 0);
        x.turnCosy(1);
        x.turnCosy(2);
        for (int beat = 0; beat < 60 && !(x.crackOf(0) == 4 && x.beats() % 4 == 0); beat++) {
            x.fill(0);
            x.sing(1);
        }
        x.turnCosy(1);
        x.turnCosy(2);
        x.fill(0);
        return x;
    }
}
