/** Counts the answers that are not as due, and tells each of them. */
final class Checks {
    static final Class<IndexOutOfBoundsException> NO_POT = IndexOutOfBoundsException.class;
    static final Class<IllegalArgumentException> BAD = IllegalArgumentException.class;
    static final Class<IllegalStateException> FULL = IllegalStateException.class;
    static final int LEAST = Integer.MIN_VALUE;
    static final int MOST = Integer.MAX_VALUE;

    private static int asked = 0;
    private static int wrong = 0;

    private Checks() {
    }

    interface Call {
        Object answer();
    }

    interface ChoirCall {
        Object answer(TeapotChoir x);
    }

    interface PotCall {
        Object answer(TeapotChoir x, int pot);
    }

    static void due(String what, Object got, Object want) {
        asked++;
        if (!want.equals(got)) {
            wrong++;
            System.out.println(what + ": answered " + got + ", due is " + want);
        }
    }

    /** The class of what is thrown has to be the very one that the document names. */
    static void dueThrow(String what, Class<? extends RuntimeException> want, Call call) {
        Object got;
        try {
            got = call.answer();
        } catch (RuntimeException e) {
            got = e.getClass();
        }
        due(what, got, want);
    }

    /** As dueThrow, and the call has to leave the object as it was, in all that can be asked of it. */
    static void dueRefused(String what, Class<? extends RuntimeException> want, TeapotChoir choir, Call call) {
        String before = look(choir);
        dueThrow(what, want, call);
        due(what + " changes nothing", look(choir), before);
    }

    /** As dueThrow on a choir of that kind, which has then to go on as one that was never called so. */
    static void dueRefusedBy(String what, Class<? extends RuntimeException> want, int kind, ChoirCall call) {
        TeapotChoir x = Choirs.kind(kind);
        dueThrow(what + " of the choir " + kind, want, () -> call.answer(x));
        dueTwin(what + " of the choir " + kind + " changes nothing", x, Choirs.kind(kind));
    }

    static void dueRefusedByAll(String what, Class<? extends RuntimeException> want, ChoirCall call) {
        for (int kind = 0; kind < Choirs.KINDS; kind++) {
            dueRefusedBy(what, want, kind, call);
        }
    }

    /** "if there is no such teapot": from the first number behind the last pot's, and below 0. */
    static void dueNoSuchPot(String what, PotCall call) {
        for (int kind = 0; kind < Choirs.KINDS; kind++) {
            int pots = Choirs.kind(kind).pots();
            for (int pot : new int[] {-1, pots, 10, LEAST, MOST}) {
                dueRefusedBy(what + " of the pot " + pot, NO_POT, kind, x -> call.answer(x, pot));
            }
        }
    }

    /** "nothing is changed": the choir goes on as one that was never asked. */
    static void dueUnchanged(String what, ChoirCall question) {
        for (int kind = 0; kind < Choirs.KINDS; kind++) {
            TeapotChoir x = Choirs.kind(kind);
            question.answer(x);
            dueTwin(what + " changes nothing in the choir " + kind, x, Choirs.kind(kind));
        }
    }

    private static void dueTwin(String what, TeapotChoir x, TeapotChoir twin) {
        due(what, future(x).equals(future(twin)), true);
    }

    /** In few calls: an object is good for 512, and tests look at one many times. */
    static String look(TeapotChoir choir) {
        StringBuilder all = new StringBuilder();
        all.append(choir.digest()).append(' ').append(choir.meanPitch());
        for (int part = 0; part < 4; part++) {
            all.append(' ').append(choir.soundingOf(part));
        }
        return all.toString();
    }

    /** Every pot by itself, and what shows only later on, such as a clash ahead and a cosy on an empty pot. */
    static String future(TeapotChoir choir) {
        StringBuilder all = new StringBuilder();
        for (int pot = 0; pot < choir.pots(); pot++) {
            all.append(" | ").append(choir.partOf(pot)).append(' ').append(choir.pitchOf(pot));
            all.append(' ').append(choir.teaOf(pot)).append(' ').append(choir.crackOf(pot));
            all.append(' ').append(choir.turnCosy(pot)).append(' ').append(choir.turnCosy(pot));
        }
        lookBeatByBeat(choir, all);
        for (int pot = 0; pot < choir.pots(); pot++) {
            all.append(" | ").append(choir.fill(pot));
        }
        lookBeatByBeat(choir, all);
        return all.toString();
    }

    private static void lookBeatByBeat(TeapotChoir choir, StringBuilder all) {
        for (int beat = 0; beat < 13; beat++) {
            all.append(" | ").append(look(choir)).append(" | ").append(choir.sing(1));
        }
    }

    static void end() {
        System.out.println(asked + " answers asked, " + wrong + " not as due");
        if (wrong != 0 || asked == 0) {
            System.exit(1);
        }
    }
}
