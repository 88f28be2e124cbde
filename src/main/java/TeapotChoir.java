/** A choir school for teapots. */
public final class TeapotChoir {
    private static final int MOST_POTS = 10;
    private static final int PARTS = 4;
    private static final int HIGHEST_PITCH = 35;
    private static final int MOST_TEA = 20;
    private static final int MOST_CRACK = 9;
    private static final int WIDEST_TUNING = 12;
    private static final int MOST_BEATS = 60;
    private static final int OCTAVE = 12;
    private static final int FEWEST_FOR_CLEAR = 3;
    private static final int DIGEST_START = 2087;
    private static final int DIGEST_FACTOR = 31;

    private final Choir choir;
    /** Sings ahead in place of the choir; kept, so that no question makes new rows. */
    private final Choir trial;

    public TeapotChoir() {
        choir = new Choir();
        trial = new Choir();
    }

    // ---- teapots

    public int addPot(int part, int pitch, int tea) throws IllegalArgumentException, IllegalStateException {
        requireWithin(part, 0, PARTS - 1);
        requireWithin(pitch, 0, HIGHEST_PITCH);
        requireWithin(tea, 0, MOST_TEA);
        if (choir.count >= MOST_POTS) {
            throw new IllegalStateException("there are 10 teapots");
        }
        return choir.admit(part, pitch, tea);
    }

    public int tune(int pot, int by) throws IndexOutOfBoundsException, IllegalArgumentException {
        requirePot(pot);
        requireWithin(by, -WIDEST_TUNING, WIDEST_TUNING);
        int tuned = choir.pitch[pot] + by;
        requireWithin(tuned, 0, HIGHEST_PITCH);
        choir.pitch[pot] = tuned;
        return tuned;
    }

    public boolean turnCosy(int pot) throws IndexOutOfBoundsException {
        requirePot(pot);
        choir.cosy[pot] = !choir.cosy[pot];
        return choir.cosy[pot];
    }

    public int pour(int from, int to, int tea) throws IndexOutOfBoundsException, IllegalArgumentException {
        requirePot(from);
        requirePot(to);
        if (from == to) {
            throw new IllegalArgumentException("a pot can't be poured into itself");
        }
        requireWithin(tea, 1, MOST_TEA);
        int poured = Math.min(tea, Math.min(choir.tea[from], MOST_TEA - choir.tea[to]));
        choir.tea[from] -= poured;
        choir.tea[to] += poured;
        return poured;
    }

    public int fill(int pot) throws IndexOutOfBoundsException {
        requirePot(pot);
        int added = MOST_TEA - choir.tea[pot];
        choir.tea[pot] = MOST_TEA;
        return added;
    }

    public int mend(int pot) throws IndexOutOfBoundsException {
        requirePot(pot);
        int before = choir.crack[pot];
        choir.crack[pot] = 0;
        choir.tea[pot] = 0;
        return before;
    }

    public int sing(int beats) throws IllegalArgumentException {
        requireWithin(beats, 1, MOST_BEATS);
        int before = choir.cadenceCount;
        choir.passBeats(beats);
        return choir.cadenceCount - before;
    }

    // ---- what pots are

    public int pots() {
        return choir.count;
    }

    public int partOf(int pot) throws IndexOutOfBoundsException {
        requirePot(pot);
        return choir.part[pot];
    }

    public int pitchOf(int pot) throws IndexOutOfBoundsException {
        requirePot(pot);
        return choir.pitch[pot];
    }

    public int teaOf(int pot) throws IndexOutOfBoundsException {
        requirePot(pot);
        return choir.tea[pot];
    }

    public int crackOf(int pot) throws IndexOutOfBoundsException {
        requirePot(pot);
        return choir.crack[pot];
    }

    public boolean sounds(int pot) throws IndexOutOfBoundsException {
        requirePot(pot);
        return choir.isSounding(pot);
    }

    public int soundingOf(int part) throws IndexOutOfBoundsException {
        if (part < 0 || part >= PARTS) {
            throw new IndexOutOfBoundsException("no such part");
        }
        return choir.countSoundingIn(part);
    }

    // ---- the chord

    public int beats() {
        return choir.beat;
    }

    public int sounding() {
        return choir.countSounding();
    }

    public int interval(int one, int other) throws IndexOutOfBoundsException {
        requirePot(one);
        requirePot(other);
        return Math.abs(choir.pitch[one] - choir.pitch[other]);
    }

    public boolean areInAccord(int one, int other) throws IndexOutOfBoundsException {
        requirePot(one);
        requirePot(other);
        return isAccord(choir.pitch[one], choir.pitch[other]);
    }

    public int harmony() {
        return choir.harmonyNow();
    }

    public int clashes() {
        return choir.countClashes();
    }

    public int clashesOf(int pot) throws IndexOutOfBoundsException {
        requirePot(pot);
        return choir.isSounding(pot) ? choir.countClashesAt(pot, choir.pitch[pot]) : 0;
    }

    public int harshest() {
        return choir.countClashes() > 0 ? choir.findMostClashing() : -1;
    }

    public int lowest() {
        return choir.findLowest();
    }

    public boolean isClear() {
        return choir.isChordClear();
    }

    public int cadences() {
        return choir.cadenceCount;
    }

    // ---- what would be

    public int bestTuning(int pot) throws IndexOutOfBoundsException {
        requirePot(pot);
        return choir.isSounding(pot) ? choir.findBestTuning(pot) : 0;
    }

    /**
     * All chords with one pot less have equally many pairs, so the best of them is the one with the fewest
     * clashes left: the pot that clashes with the most is muted.
     */
    public int bestToMute() {
        return choir.findMostClashing();
    }

    public int harmonyIn(int beats) throws IllegalArgumentException {
        requireWithin(beats, 1, MOST_BEATS);
        trial.becomeLike(choir);
        trial.passBeats(beats);
        return trial.harmonyNow();
    }

    /** Each pot that sounds loses tea with every beat, so none sounds for more beats than it can hold tea. */
    public int beatsUntilSilence() {
        trial.becomeLike(choir);
        int passed = 0;
        while (passed < MOST_TEA && trial.countSounding() > 0) {
            trial.passBeat();
            passed++;
        }
        return passed;
    }

    public int beatsUntilCadence() {
        trial.becomeLike(choir);
        for (int passed = 1; passed <= MOST_BEATS; passed++) {
            trial.passBeat();
            if (trial.cadenceCount > choir.cadenceCount) {
                return passed;
            }
        }
        return -1;
    }

    public int greatestAccord() {
        return choir.sizeOfGreatestAccord();
    }

    public double meanPitch() {
        return choir.meanOfPitches();
    }

    public long digest() {
        long d = DIGEST_START;
        d = d * DIGEST_FACTOR + pots();
        d = d * DIGEST_FACTOR + beats();
        d = d * DIGEST_FACTOR + sounding();
        d = d * DIGEST_FACTOR + harmony();
        d = d * DIGEST_FACTOR + clashes();
        d = d * DIGEST_FACTOR + harshest();
        d = d * DIGEST_FACTOR + lowest();
        d = d * DIGEST_FACTOR + (isClear() ? 1 : 0);
        d = d * DIGEST_FACTOR + cadences();
        d = d * DIGEST_FACTOR + bestToMute();
        d = d * DIGEST_FACTOR + beatsUntilSilence();
        d = d * DIGEST_FACTOR + beatsUntilCadence();
        d = d * DIGEST_FACTOR + greatestAccord();
        for (int pot = 0; pot < choir.count; pot++) {
            d = digestPot(d, pot);
        }
        return d;
    }

    private long digestPot(long before, int pot) {
        long d = before;
        d = d * DIGEST_FACTOR + partOf(pot);
        d = d * DIGEST_FACTOR + pitchOf(pot);
        d = d * DIGEST_FACTOR + teaOf(pot);
        d = d * DIGEST_FACTOR + crackOf(pot);
        d = d * DIGEST_FACTOR + (sounds(pot) ? 1 : 0);
        d = d * DIGEST_FACTOR + clashesOf(pot);
        d = d * DIGEST_FACTOR + bestTuning(pot);
        return d;
    }

    private void requirePot(int pot) {
        if (pot < 0 || pot >= choir.count) {
            throw new IndexOutOfBoundsException("no such teapot");
        }
    }

    private static void requireWithin(int number, int least, int most) {
        if (number < least || number > most) {
            throw new IllegalArgumentException("a number is out of its range");
        }
    }

    private static boolean isAccord(int onePitch, int otherPitch) {
        switch (Math.abs(onePitch - otherPitch) % OCTAVE) {
            case 0:
            case 3:
            case 4:
            case 5:
            case 7:
            case 8:
            case 9:
                return true;
            default:
                return false;
        }
    }

    /** The pots and their song: there is one that is, and one that is sung ahead on trial. */
    private static final class Choir {
        final int[] part = new int[MOST_POTS];
        final int[] pitch = new int[MOST_POTS];
        final int[] tea = new int[MOST_POTS];
        final int[] crack = new int[MOST_POTS];
        final boolean[] cosy = new boolean[MOST_POTS];
        /** For each pot, a bit for every pot that can't be in one accord with it; only for greatestAccord. */
        final int[] barred = new int[MOST_POTS];
        int count;
        int beat;
        int cadenceCount;
        /** Whether the chord was a clash as the last beat began. */
        boolean clashAhead;

        /** The caller sees to it that there is room. */
        int admit(int itsPart, int itsPitch, int itsTea) {
            int pot = count;
            part[pot] = itsPart;
            pitch[pot] = itsPitch;
            tea[pot] = itsTea;
            count++;
            return pot;
        }

        void becomeLike(Choir other) {
            for (int pot = 0; pot < MOST_POTS; pot++) {
                part[pot] = other.part[pot];
                pitch[pot] = other.pitch[pot];
                tea[pot] = other.tea[pot];
                crack[pot] = other.crack[pot];
                cosy[pot] = other.cosy[pot];
            }
            count = other.count;
            beat = other.beat;
            cadenceCount = other.cadenceCount;
            clashAhead = other.clashAhead;
        }

        void passBeats(int beats) {
            for (int passed = 0; passed < beats; passed++) {
                passBeat();
            }
        }

        void passBeat() {
            if (clashAhead && isChordClear()) {
                cadenceCount++;
            }
            clashAhead = countClashes() > 0;
            for (int pot = 0; pot < count; pot++) {
                if (isSounding(pot)) {
                    wear(pot);
                } else if (cosy[pot] && beat % 3 == 0) {
                    crack[pot] = Math.max(0, crack[pot] - 1);
                }
            }
            beat++;
        }

        /** The order matters: tea is lost by the crack before this beat, pitch by the crack behind it. */
        private void wear(int pot) {
            tea[pot] = Math.max(0, tea[pot] - 1 - crack[pot] / 3);
            if (pitch[pot] >= 24 && beat % 4 == 0) {
                crack[pot] = Math.min(MOST_CRACK, crack[pot] + 1);
            }
            if (crack[pot] >= 5) {
                pitch[pot] = Math.max(0, pitch[pot] - 1);
            }
        }

        boolean isSounding(int pot) {
            return tea[pot] > 0 && !cosy[pot];
        }

        int countSounding() {
            int found = 0;
            for (int pot = 0; pot < count; pot++) {
                if (isSounding(pot)) {
                    found++;
                }
            }
            return found;
        }

        int countSoundingIn(int ofPart) {
            int found = 0;
            for (int pot = 0; pot < count; pot++) {
                if (part[pot] == ofPart && isSounding(pot)) {
                    found++;
                }
            }
            return found;
        }

        /** With how many other pots that sound a pot would clash at a pitch, if it sounded. */
        int countClashesAt(int pot, int itsPitch) {
            int found = 0;
            for (int other = 0; other < count; other++) {
                if (other != pot && isSounding(other) && !isAccord(itsPitch, pitch[other])) {
                    found++;
                }
            }
            return found;
        }

        int countClashes() {
            int twice = 0;
            for (int pot = 0; pot < count; pot++) {
                if (isSounding(pot)) {
                    twice += countClashesAt(pot, pitch[pot]);
                }
            }
            return twice / 2;
        }

        /** Every pair counts 1 for an accord, so a clash takes that away and counts 1 less. */
        int harmonyNow() {
            int found = countSounding();
            int pairs = found * (found - 1) / 2;
            return pairs - 2 * countClashes();
        }

        boolean isChordClear() {
            return countSounding() >= FEWEST_FOR_CLEAR && countClashes() == 0;
        }

        /** Of the pots that sound, even if none clashes; -1 if none sounds. */
        int findMostClashing() {
            int best = -1;
            int most = -1;
            for (int pot = 0; pot < count; pot++) {
                int found = isSounding(pot) ? countClashesAt(pot, pitch[pot]) : -1;
                if (found > most) {
                    most = found;
                    best = pot;
                }
            }
            return best;
        }

        int findLowest() {
            int best = -1;
            int least = HIGHEST_PITCH + 1;
            for (int pot = 0; pot < count; pot++) {
                if (isSounding(pot) && pitch[pot] < least) {
                    least = pitch[pot];
                    best = pot;
                }
            }
            return best;
        }

        /** For a pot that sounds: the fewer clashes, the greater the harmony, as the pairs stay as many. */
        int findBestTuning(int pot) {
            int best = 0;
            int fewest = countClashesAt(pot, pitch[pot]);
            for (int by = -WIDEST_TUNING; by <= WIDEST_TUNING; by++) {
                int tuned = pitch[pot] + by;
                if (tuned < 0 || tuned > HIGHEST_PITCH) {
                    continue;
                }
                int found = countClashesAt(pot, tuned);
                // Of two as near to 0 the greater one is due, and that is the one that comes later.
                boolean asNear = Math.abs(by) <= Math.abs(best);
                if (found < fewest || found == fewest && asNear) {
                    fewest = found;
                    best = by;
                }
            }
            return best;
        }

        /** Goes through all groups of pots, a bit for each pot: there are 1024 at most. */
        int sizeOfGreatestAccord() {
            for (int pot = 0; pot < count; pot++) {
                barred[pot] = findBarred(pot);
            }
            int most = 0;
            for (int group = 1; group < 1 << count; group++) {
                int size = Integer.bitCount(group);
                if (size > most && isGroupInAccord(group)) {
                    most = size;
                }
            }
            return most;
        }

        /** A pot that does not sound is barred even from a group of its own. */
        private int findBarred(int pot) {
            if (!isSounding(pot)) {
                return 1 << pot;
            }
            int found = 0;
            for (int other = 0; other < count; other++) {
                if (!isAccord(pitch[pot], pitch[other])) {
                    found |= 1 << other;
                }
            }
            return found;
        }

        private boolean isGroupInAccord(int group) {
            for (int pot = 0; pot < count; pot++) {
                if ((group >> pot & 1) == 1 && (group & barred[pot]) != 0) {
                    return false;
                }
            }
            return true;
        }

        double meanOfPitches() {
            int found = countSounding();
            if (found == 0) {
                return 0.0;
            }
            int sum = 0;
            for (int pot = 0; pot < count; pot++) {
                if (isSounding(pot)) {
                    sum += pitch[pot];
                }
            }
            return (double) sum / found;
        }
    }
}
