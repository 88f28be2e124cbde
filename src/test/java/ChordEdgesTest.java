/** The sentences of the promises 16 to 26 that name an edge: a method each, with the sentence above it. */
public final class ChordEdgesTest {
    private ChordEdgesTest() {
    }

    public static void main(String[] args) {
        beatsThatWentBy();
        soundingFrom0To10();
        intervalWithoutSuchAPot();
        intervalOfAPotWithItself();
        intervalOfSilentPots();
        areInAccordWithoutSuchAPot();
        areInAccordWhetherTheySoundOrNot();
        areInAccordWithItself();
        harmonyOfFewPots();
        clashesOfFewPots();
        clashesOfPairsThatSound();
        clashesOfWithoutSuchAPot();
        clashesOfIfItDoesNotSound();
        clashesOfPotsThatSound();
        harshestOfSeveral();
        harshestWithoutClashes();
        harshestOfThoseThatSound();
        lowestOfSeveral();
        lowestOfThoseThatSound();
        lowestWithoutAny();
        isClearOfThree();
        cadencesInAll();
        Checks.end();
    }

    /** 16: "Returns how many beats went by." Not those that were refused, and not those that were asked of. */
    private static void beatsThatWentBy() {
        TeapotChoir x = Choirs.chord(0, 4, 8);
        Checks.due("16 at first", x.beats(), 0);
        Checks.dueThrow("16 sing(0)", Checks.BAD, () -> x.sing(0));
        Checks.dueThrow("16 sing(61)", Checks.BAD, () -> x.sing(61));
        x.harmonyIn(60);
        x.beatsUntilSilence();
        x.beatsUntilCadence();
        Checks.due("16 none yet", x.beats(), 0);
        x.sing(1);
        Checks.due("16 one", x.beats(), 1);
        x.sing(60);
        Checks.due("16 though none sounds", x.beats(), 61);
    }

    /** 17: "Returns how many pots sound." */
    private static void soundingFrom0To10() {
        TeapotChoir x = new TeapotChoir();
        for (int pot = 0; pot < 10; pot++) {
            Checks.due("17 so many", x.sounding(), pot);
            x.addPot(pot % 4, pot, 1);
        }
        Checks.due("17 all of ten", x.sounding(), 10);
        x.turnCosy(0);
        Checks.due("17 the first is mute", x.sounding(), 9);
        x.mend(9);
        Checks.due("17 the last is empty", x.sounding(), 8);
        x.sing(1);
        Checks.due("17 none", x.sounding(), 0);
        x.turnCosy(0);
        Checks.due("17 the first one's tea was kept", x.sounding(), 1);
    }

    /** 18: "IndexOutOfBoundsException if there is no such teapot", be it the one or the other. */
    private static void intervalWithoutSuchAPot() {
        Checks.dueNoSuchPot("18 interval from", (x, pot) -> x.interval(pot, 0));
        Checks.dueNoSuchPot("18 interval to", (x, pot) -> x.interval(0, pot));
        Checks.dueNoSuchPot("18 interval from and to", (x, pot) -> x.interval(pot, pot));
    }

    /** 18: nothing says that the two are not the same pot. */
    private static void intervalOfAPotWithItself() {
        TeapotChoir x = Choirs.full();
        for (int pot = 0; pot < 10; pot++) {
            Checks.due("18 with itself", x.interval(pot, pot), 0);
        }
    }

    /** 18: "Returns their interval", and an interval asks for pitches alone. */
    private static void intervalOfSilentPots() {
        TeapotChoir x = Choirs.chord(35, 0, 35);
        x.turnCosy(0);
        x.mend(1);
        Checks.due("18 down", x.interval(0, 1), 35);
        Checks.due("18 up", x.interval(1, 0), 35);
        Checks.due("18 one pitch", x.interval(0, 2), 0);
    }

    /** 19: "IndexOutOfBoundsException if there is no such teapot", be it the one or the other. */
    private static void areInAccordWithoutSuchAPot() {
        Checks.dueNoSuchPot("19 accord from", (x, pot) -> x.areInAccord(pot, 0));
        Checks.dueNoSuchPot("19 accord to", (x, pot) -> x.areInAccord(0, pot));
        Checks.dueNoSuchPot("19 accord from and to", (x, pot) -> x.areInAccord(pot, pot));
    }

    /** 19: "whether they sound or not." */
    private static void areInAccordWhetherTheySoundOrNot() {
        TeapotChoir x = Choirs.chord(0, 4, 5);
        for (int silent = 0; silent < 9; silent++) {
            Checks.due("19 0 and 4", x.areInAccord(0, 1), true);
            Checks.due("19 4 and 5", x.areInAccord(1, 2), false);
            if (silent % 3 == 2) {
                x.mend(silent / 3);
            } else {
                x.turnCosy(silent % 3);
            }
        }
    }

    /** 19: the interval of a pot with itself is 0, and a step of 0 is an accord. */
    private static void areInAccordWithItself() {
        TeapotChoir x = Choirs.full();
        for (int pot = 0; pot < 10; pot++) {
            Checks.due("19 with itself", x.areInAccord(pot, pot), true);
        }
    }

    /** 20: "Returns the harmony": of no pair, of one, and of all of ten. */
    private static void harmonyOfFewPots() {
        Checks.due("20 no pot", new TeapotChoir().harmony(), 0);
        Checks.due("20 a pot", Choirs.chord(7).harmony(), 0);
        Checks.due("20 two in accord", Choirs.chord(7, 7).harmony(), 1);
        Checks.due("20 two that clash", Choirs.chord(7, 8).harmony(), -1);
        Checks.due("20 ten in accord", Choirs.chord(0, 4, 8, 12, 16, 20, 24, 28, 32, 0).harmony(), 45);
        TeapotChoir x = Choirs.chord(7, 8, 7);
        Checks.due("20 an accord and two clashes", x.harmony(), -1);
        x.mend(0);
        x.turnCosy(2);
        Checks.due("20 one is left", x.harmony(), 0);
        x.sing(20);
        Checks.due("20 none is left", x.harmony(), 0);
    }

    /** 21: "Returns how many pairs of pots that sound clash": each pair once. */
    private static void clashesOfFewPots() {
        Checks.due("21 no pot", new TeapotChoir().clashes(), 0);
        Checks.due("21 a pot", Choirs.chord(7).clashes(), 0);
        Checks.due("21 a pair", Choirs.chord(7, 8).clashes(), 1);
        Checks.due("21 three pairs", Choirs.chord(7, 8, 9).clashes(), 3);
        Checks.due("21 many of ten", Choirs.chord(0, 0, 0, 0, 1, 1, 1, 2, 2, 2).clashes(), 33);
        Checks.due("21 none of ten", Choirs.chord(0, 4, 8, 12, 16, 20, 24, 28, 32, 0).clashes(), 0);
    }

    /** 21: "of pots that sound". */
    private static void clashesOfPairsThatSound() {
        TeapotChoir x = Choirs.chord(7, 8, 9);
        x.turnCosy(0);
        Checks.due("21 the first is mute", x.clashes(), 1);
        x.mend(2);
        Checks.due("21 the last is empty", x.clashes(), 0);
        x.turnCosy(0);
        Checks.due("21 the first sounds again", x.clashes(), 1);
        x.sing(20);
        Checks.due("21 none sounds", x.clashes(), 0);
    }

    /** 22: "IndexOutOfBoundsException if there is no such teapot". */
    private static void clashesOfWithoutSuchAPot() {
        Checks.dueNoSuchPot("22 clashesOf", (x, pot) -> x.clashesOf(pot));
    }

    /** 22: "0 if it does not." */
    private static void clashesOfIfItDoesNotSound() {
        TeapotChoir x = Choirs.chord(0, 1, 2);
        x.turnCosy(0);
        Checks.due("22 a mute pot", x.clashesOf(0), 0);
        x.turnCosy(0);
        x.mend(0);
        Checks.due("22 an empty pot", x.clashesOf(0), 0);
        x.turnCosy(0);
        Checks.due("22 an empty, mute pot", x.clashesOf(0), 0);
        Checks.due("22 one of those that are left", x.clashesOf(1), 1);
    }

    /** 22: "Returns with how many pots that sound it clashes, if it sounds". */
    private static void clashesOfPotsThatSound() {
        TeapotChoir x = new TeapotChoir();
        x.addPot(0, 1, 20);
        for (int others = 0; others < 9; others++) {
            Checks.due("22 with so many", x.clashesOf(0), others);
            x.addPot(0, 12 * (others % 3), 20);
        }
        Checks.due("22 with all nine", x.clashesOf(0), 9);
        Checks.due("22 with one of ten", x.clashesOf(9), 1);
        x.turnCosy(9);
        x.mend(1);
        Checks.due("22 with those that sound", x.clashesOf(0), 7);
        x.turnCosy(0);
        Checks.due("22 with none that sounds", x.clashesOf(8), 0);
    }

    /** 23: "of several the smallest number". */
    private static void harshestOfSeveral() {
        for (int first = 0; first < 9; first++) {
            for (int second = first + 1; second < 10; second++) {
                TeapotChoir x = new TeapotChoir();
                for (int pot = 0; pot < 10; pot++) {
                    // 5 and 7 clash with each other, and neither of them with 0.
                    x.addPot(0, pot == first ? 5 : pot == second ? 7 : 0, 20);
                }
                Checks.due("23 of two that clash, " + first + " and " + second, x.harshest(), first);
            }
        }
        Checks.due("23 all clash as much", Choirs.chord(0, 1, 2).harshest(), 0);
        Checks.due("23 two with three, behind two with two", Choirs.chord(0, 3, 1, 2).harshest(), 2);
        Checks.due("23 two with three, not side by side", Choirs.chord(0, 1, 12, 2).harshest(), 1);
    }

    /** 23: "-1 if there are no clashes." */
    private static void harshestWithoutClashes() {
        Checks.due("23 no pot", new TeapotChoir().harshest(), -1);
        Checks.due("23 a pot", Choirs.chord(7).harshest(), -1);
        Checks.due("23 two in accord", Choirs.chord(7, 7).harshest(), -1);
        Checks.due("23 ten in accord", Choirs.chord(0, 4, 8, 12, 16, 20, 24, 28, 32, 0).harshest(), -1);
    }

    /** 23: clashes are of pots that sound. */
    private static void harshestOfThoseThatSound() {
        TeapotChoir x = Choirs.chord(0, 1, 2, 3, 8);
        x.mend(1);
        Checks.due("23 the second is empty", x.harshest(), 2);
        x.turnCosy(2);
        Checks.due("23 the third is mute", x.harshest(), -1);
        x.turnCosy(2);
        x.turnCosy(0);
        Checks.due("23 the first is mute", x.harshest(), 2);
    }

    /** 24: "Returns the pot with the lowest pitch of those that sound, of several the smallest number". */
    private static void lowestOfSeveral() {
        for (int first = 0; first < 9; first++) {
            for (int second = first + 1; second < 10; second++) {
                TeapotChoir x = new TeapotChoir();
                for (int pot = 0; pot < 10; pot++) {
                    x.addPot(0, pot == first || pot == second ? 34 : 35, 20);
                }
                Checks.due("24 of two as low, " + first + " and " + second, x.lowest(), first);
            }
        }
        Checks.due("24 the highest of pitches", Choirs.chord(35, 35).lowest(), 0);
        Checks.due("24 the lowest of pitches", Choirs.chord(1, 0, 0).lowest(), 1);
    }

    /** 24: "of those that sound". */
    private static void lowestOfThoseThatSound() {
        TeapotChoir x = Choirs.chord(0, 1, 2);
        x.turnCosy(0);
        Checks.due("24 the lowest is mute", x.lowest(), 1);
        x.mend(1);
        Checks.due("24 the next one is empty", x.lowest(), 2);
    }

    /** 24: "-1 without any." */
    private static void lowestWithoutAny() {
        Checks.due("24 no pot", new TeapotChoir().lowest(), -1);
        TeapotChoir x = Choirs.chord(0, 35);
        x.turnCosy(0);
        x.mend(1);
        Checks.due("24 none that sounds", x.lowest(), -1);
    }

    /** 25: "Returns whether the chord is clear": the third pot makes it so, and the first clash undoes it. */
    private static void isClearOfThree() {
        Checks.due("25 no pot", new TeapotChoir().isClear(), false);
        Checks.due("25 a pot", Choirs.chord(0).isClear(), false);
        Checks.due("25 two", Choirs.chord(0, 0).isClear(), false);
        Checks.due("25 three", Choirs.chord(0, 0, 0).isClear(), true);
        Checks.due("25 three with a clash", Choirs.chord(0, 0, 1).isClear(), false);
        Checks.due("25 ten", Choirs.chord(0, 4, 8, 12, 16, 20, 24, 28, 32, 0).isClear(), true);
        Checks.due("25 ten with a clash", Choirs.chord(5, 7, 0, 0, 0, 0, 0, 0, 0, 0).isClear(), false);
        TeapotChoir x = Choirs.chord(0, 0, 0);
        x.sing(19);
        Checks.due("25 with the last tea", x.isClear(), true);
        x.sing(1);
        Checks.due("25 behind it", x.isClear(), false);
    }

    /** 26: "Returns how many cadences there were in all." */
    private static void cadencesInAll() {
        TeapotChoir x = Choirs.chord(0, 4, 8, 1);
        for (int round = 0; round < 40; round++) {
            Checks.due("26 in all", x.cadences(), round);
            for (int pot = 0; pot < 4; pot++) {
                x.fill(pot);
            }
            x.sing(1);
            Checks.due("26 none in a clash", x.cadences(), round);
            x.turnCosy(3);
            Checks.due("26 none ahead of its beat", x.cadences(), round);
            x.sing(1);
            Checks.due("26 one more", x.cadences(), round + 1);
            x.turnCosy(3);
        }
        TeapotChoir y = Choirs.cracking();
        y.sing(60);
        Checks.due("26 two in one call", y.cadences(), 2);
        Checks.dueThrow("26 refused", Checks.BAD, () -> y.sing(61));
        y.harmonyIn(60);
        Checks.due("26 still two", y.cadences(), 2);
    }
}
