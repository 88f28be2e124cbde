import java.util.ArrayList;
import java.util.List;

/**
 * All promises at once: long runs of calls, right and wrong ones, each answer compared with that of a model
 * that is written from the document in another way: pots are rows in a list, and every question is answered
 * by trying all there is to try.
 */
public final class ModelTest {
    private static final int RUNS = 300;
    private static final int CALLS = 480;

    private long seed;

    private ModelTest(long seed) {
        this.seed = seed;
    }

    public static void main(String[] args) {
        for (int run = 0; run < RUNS; run++) {
            new ModelTest(run).compare("run " + run);
        }
        Checks.end();
    }

    /** The same numbers each time: a failure can be seen again. */
    private int pick(int least, int most) {
        seed = seed * 6364136223846793005L + 1442695040888963407L;
        return least + (int) ((seed >>> 33) % (most - least + 1));
    }

    /** Now and then a number that is out of its range. */
    private int about(int least, int most) {
        int kind = pick(0, 39);
        if (kind == 0) {
            return least - 1;
        }
        if (kind == 1) {
            return most + 1;
        }
        if (kind == 2) {
            return pick(0, 1) == 0 ? Integer.MIN_VALUE : Integer.MAX_VALUE;
        }
        return pick(least, most);
    }

    private void compare(String run) {
        TeapotChoir x = new TeapotChoir();
        Model model = new Model();
        int wanted = pick(3, 10);
        for (int call = 0; call < CALLS; call++) {
            boolean early = model.pots.size() < wanted && pick(0, 2) > 0;
            int kind = early ? 0 : pick(1, 5) < 4 ? pick(1, 6) : pick(0, 32);
            int a = firstOf(kind, model);
            int b = kind == 0 ? about(0, 35) : kind == 1 ? about(-12, 12) : about(0, model.lastPot());
            int c = kind == 0 ? about(0, 20) : about(1, 20);
            String told = run + " call " + call + ": " + kind + "(" + a + ", " + b + ", " + c + ")";
            Checks.due(told, answer(() -> ofProgram(x, kind, a, b, c)), answer(() -> model.call(kind, a, b, c)));
            if (call % 16 == 15) {
                Checks.due(told + " and its digest", x.digest(), model.digest());
            }
        }
    }

    private int firstOf(int kind, Model model) {
        switch (kind) {
            case 0:
            case 14:
                return about(0, 3);
            case 6:
                return pick(0, 3) > 0 ? about(1, 3) : about(1, 60);
            case 28:
                return pick(0, 3) > 0 ? about(1, 20) : about(1, 60);
            default:
                return about(0, model.lastPot());
        }
    }

    private static Object answer(Checks.Call call) {
        try {
            return call.answer();
        } catch (RuntimeException e) {
            return e.getClass();
        }
    }

    private static Object ofProgram(TeapotChoir x, int kind, int a, int b, int c) {
        switch (kind) {
            case 0: return x.addPot(a, b, c);
            case 1: return x.tune(a, b);
            case 2: return x.turnCosy(a);
            case 3: return x.pour(a, b, c);
            case 4: return x.fill(a);
            case 5: return x.mend(a);
            case 6: return x.sing(a);
            case 7: return x.pots();
            case 8: return x.partOf(a);
            case 9: return x.pitchOf(a);
            case 10: return x.teaOf(a);
            case 11: return x.crackOf(a);
            case 12: return x.sounds(a);
            case 13: return x.beats();
            case 14: return x.soundingOf(a);
            case 15: return x.sounding();
            case 16: return x.interval(a, b);
            case 17: return x.areInAccord(a, b);
            case 18: return x.harmony();
            case 19: return x.clashes();
            case 20: return x.clashesOf(a);
            case 21: return x.harshest();
            case 22: return x.lowest();
            case 23: return x.isClear();
            case 24: return x.cadences();
            case 25: return x.bestTuning(a);
            case 26: return x.bestToMute();
            case 27: return x.greatestAccord();
            case 28: return x.harmonyIn(a);
            case 29: return x.beatsUntilSilence();
            case 30: return x.beatsUntilCadence();
            case 31: return x.meanPitch();
            default: return x.digest();
        }
    }

    private static final class Pot {
        int part;
        int pitch;
        int tea;
        int crack;
        boolean cosy;

        Pot copy() {
            Pot other = new Pot();
            other.part = part;
            other.pitch = pitch;
            other.tea = tea;
            other.crack = crack;
            other.cosy = cosy;
            return other;
        }

        boolean sounds() {
            return tea != 0 && !cosy;
        }
    }

    private static final class Model {
        private List<Pot> pots = new ArrayList<>();
        private int beats = 0;
        private int cadences = 0;
        private boolean wasClash = false;

        Model copy() {
            Model other = new Model();
            for (Pot pot : pots) {
                other.pots.add(pot.copy());
            }
            other.beats = beats;
            other.cadences = cadences;
            other.wasClash = wasClash;
            return other;
        }

        int lastPot() {
            return Math.max(0, pots.size() - 1);
        }

        Pot at(int number) {
            if (number < 0 || number >= pots.size()) {
                throw new IndexOutOfBoundsException();
            }
            return pots.get(number);
        }

        static void range(int number, int least, int most) {
            if (number < least || number > most) {
                throw new IllegalArgumentException();
            }
        }

        Object call(int kind, int a, int b, int c) {
            switch (kind) {
                case 0: return add(a, b, c);
                case 1: return tune(at(a), b);
                case 2: return at(a).cosy = !at(a).cosy;
                case 3: return pour(at(a), at(b), c);
                case 4: return fill(at(a));
                case 5: return mend(at(a));
                case 6: return sing(a);
                case 7: return pots.size();
                case 8: return at(a).part;
                case 9: return at(a).pitch;
                case 10: return at(a).tea;
                case 11: return at(a).crack;
                case 12: return at(a).sounds();
                case 13: return beats;
                case 14: return soundingOf(a);
                case 15: return sounding().size();
                case 16: return Math.abs(at(a).pitch - at(b).pitch);
                case 17: return accord(at(a), at(b));
                default: return question(kind, a);
            }
        }

        Object question(int kind, int a) {
            switch (kind) {
                case 18: return harmony();
                case 19: return clashes();
                case 20: return clashesOf(at(a));
                case 21: return harshest();
                case 22: return lowest();
                case 23: return clear();
                case 24: return cadences;
                case 25: return bestTuning(at(a), a);
                case 26: return bestToMute();
                case 27: return greatestAccord(0, new ArrayList<>());
                case 28: return harmonyIn(a);
                case 29: return beatsUntilSilence();
                case 30: return beatsUntilCadence();
                case 31: return meanPitch();
                default: return digest();
            }
        }

        int add(int part, int pitch, int tea) {
            range(part, 0, 3);
            range(pitch, 0, 35);
            range(tea, 0, 20);
            if (pots.size() == 10) {
                throw new IllegalStateException();
            }
            Pot pot = new Pot();
            pot.part = part;
            pot.pitch = pitch;
            pot.tea = tea;
            pots.add(pot);
            return pots.size() - 1;
        }

        int tune(Pot pot, int by) {
            range(by, -12, 12);
            range(pot.pitch + by, 0, 35);
            return pot.pitch += by;
        }

        int pour(Pot from, Pot to, int tea) {
            range(from == to ? 0 : tea, 1, 20);
            int poured = 0;
            while (poured < tea && from.tea > 0 && to.tea < 20) {
                from.tea--;
                to.tea++;
                poured++;
            }
            return poured;
        }

        int fill(Pot pot) {
            int gets = 20 - pot.tea;
            pot.tea = 20;
            return gets;
        }

        int mend(Pot pot) {
            int crack = pot.crack;
            pot.crack = 0;
            pot.tea = 0;
            return crack;
        }

        int sing(int count) {
            range(count, 1, 60);
            int found = 0;
            for (int i = 0; i < count; i++) {
                found += beat() ? 1 : 0;
            }
            return found;
        }

        boolean beat() {
            boolean cadence = clear() && wasClash;
            cadences += cadence ? 1 : 0;
            wasClash = clashes() > 0;
            List<Pot> singing = sounding();
            for (Pot pot : singing) {
                pot.tea = Math.max(pot.tea - 1 - pot.crack / 3, 0);
                if (pot.pitch > 23 && beats % 4 == 0 && pot.crack < 9) {
                    pot.crack++;
                }
                if (pot.crack > 4 && pot.pitch > 0) {
                    pot.pitch--;
                }
            }
            for (Pot pot : pots) {
                if (pot.cosy && pot.crack > 0 && beats % 3 == 0) {
                    pot.crack--;
                }
            }
            beats++;
            return cadence;
        }

        List<Pot> sounding() {
            List<Pot> found = new ArrayList<>();
            for (Pot pot : pots) {
                if (pot.sounds()) {
                    found.add(pot);
                }
            }
            return found;
        }

        int soundingOf(int part) {
            if (part < 0 || part > 3) {
                throw new IndexOutOfBoundsException();
            }
            int found = 0;
            for (Pot pot : sounding()) {
                found += pot.part == part ? 1 : 0;
            }
            return found;
        }

        static boolean accord(Pot one, Pot other) {
            int step = (one.pitch > other.pitch ? one.pitch - other.pitch : other.pitch - one.pitch) % 12;
            return List.of(0, 3, 4, 5, 7, 8, 9).contains(step);
        }

        int pairs(boolean inAccord) {
            List<Pot> all = sounding();
            int found = 0;
            for (int i = 0; i < all.size(); i++) {
                for (int j = i + 1; j < all.size(); j++) {
                    found += accord(all.get(i), all.get(j)) == inAccord ? 1 : 0;
                }
            }
            return found;
        }

        int clashes() {
            return pairs(false);
        }

        int harmony() {
            return pairs(true) - pairs(false);
        }

        boolean clear() {
            return sounding().size() > 2 && clashes() == 0;
        }

        int clashesOf(Pot pot) {
            int found = 0;
            for (Pot other : sounding()) {
                found += pot.sounds() && !accord(pot, other) ? 1 : 0;
            }
            return found;
        }

        int harshest() {
            int found = -1;
            int most = 0;
            for (int i = 0; i < pots.size(); i++) {
                if (clashesOf(pots.get(i)) > most) {
                    most = clashesOf(pots.get(i));
                    found = i;
                }
            }
            return found;
        }

        int lowest() {
            for (int pitch = 0; pitch < 36; pitch++) {
                for (int i = 0; i < pots.size(); i++) {
                    if (pots.get(i).sounds() && pots.get(i).pitch == pitch) {
                        return i;
                    }
                }
            }
            return -1;
        }

        /** Tries them in the order in which they are wanted: 0, 1, -1, 2, -2 .. */
        int bestTuning(Pot pot, int number) {
            int found = 0;
            int most = Integer.MIN_VALUE;
            for (int i = 0; i < 25; i++) {
                int by = i % 2 == 1 ? i / 2 + 1 : -i / 2;
                if (pot.pitch + by >= 0 && pot.pitch + by <= 35) {
                    Model tuned = copy();
                    tuned.pots.get(number).pitch += by;
                    if (tuned.harmony() > most) {
                        most = tuned.harmony();
                        found = by;
                    }
                }
            }
            return found;
        }

        int bestToMute() {
            int found = -1;
            int most = Integer.MIN_VALUE;
            for (int i = 0; i < pots.size(); i++) {
                if (pots.get(i).sounds()) {
                    Model muted = copy();
                    muted.pots.get(i).cosy = true;
                    if (muted.harmony() > most) {
                        most = muted.harmony();
                        found = i;
                    }
                }
            }
            return found;
        }

        int harmonyIn(int count) {
            range(count, 1, 60);
            Model later = copy();
            later.sing(count);
            return later.harmony();
        }

        int beatsUntilSilence() {
            Model later = copy();
            int passed = 0;
            while (!later.sounding().isEmpty()) {
                later.beat();
                passed++;
            }
            return passed;
        }

        int beatsUntilCadence() {
            Model later = copy();
            for (int passed = 1; passed <= 60; passed++) {
                if (later.beat()) {
                    return passed;
                }
            }
            return -1;
        }

        int greatestAccord(int next, List<Pot> chosen) {
            List<Pot> all = sounding();
            if (next == all.size()) {
                return chosen.size();
            }
            int best = greatestAccord(next + 1, chosen);
            for (Pot pot : chosen) {
                if (!accord(pot, all.get(next))) {
                    return best;
                }
            }
            List<Pot> more = new ArrayList<>(chosen);
            more.add(all.get(next));
            return Math.max(best, greatestAccord(next + 1, more));
        }

        double meanPitch() {
            double sum = 0;
            for (Pot pot : sounding()) {
                sum += pot.pitch;
            }
            return sounding().isEmpty() ? 0 : sum / sounding().size();
        }

        long digest() {
            long d = 2087;
            long[] first = {
                pots.size(), beats, sounding().size(), harmony(), clashes(), harshest(), lowest(),
                clear() ? 1 : 0, cadences, bestToMute(), beatsUntilSilence(), beatsUntilCadence(),
                greatestAccord(0, new ArrayList<>()),
            };
            for (long x : first) {
                d = d * 31 + x;
            }
            for (int i = 0; i < pots.size(); i++) {
                Pot pot = pots.get(i);
                long[] ofPot = {
                    pot.part, pot.pitch, pot.tea, pot.crack, pot.sounds() ? 1 : 0, clashesOf(pot), bestTuning(pot, i),
                };
                for (long x : ofPot) {
                    d = d * 31 + x;
                }
            }
            return d;
        }
    }
}
