/** Counts the answers that are not as due, and tells each of them. */
final class Checks {
    private static int asked = 0;
    private static int wrong = 0;

    private Checks() {
    }

    interface Call {
        Object answer();
    }

    static void due(String what, Object got, Object want) {
        asked++;
        if (!want.equals(got)) {
            wrong++;
            System.out.println(what + ": answered " + got + ", due is " + want);
        }
    }

    /** The class of what is thrown has to be the very one that the document names. */
    static void dueThrow(String what, Class<? extends RuntimeException> want, Call call) {
        Object got;
        try {
            got = call.answer();
        } catch (RuntimeException e) {
            got = e.getClass();
        }
        due(what, got, want);
    }

    /** As dueThrow, and the call has to leave the object as it was, in all that can be asked of it. */
    static void dueRefused(String what, Class<? extends RuntimeException> want, TeapotChoir choir, Call call) {
        String before = look(choir);
        dueThrow(what, want, call);
        due(what + " changes nothing", look(choir), before);
    }

    /** All that the object answers to questions. */
    static String look(TeapotChoir choir) {
        StringBuilder all = new StringBuilder();
        all.append(choir.digest()).append(' ').append(choir.meanPitch());
        for (int part = 0; part < 4; part++) {
            all.append(' ').append(choir.soundingOf(part));
        }
        for (int pot = 0; pot < choir.pots(); pot++) {
            all.append(" | ").append(choir.partOf(pot)).append(' ').append(choir.pitchOf(pot));
            all.append(' ').append(choir.teaOf(pot)).append(' ').append(choir.crackOf(pot));
            all.append(' ').append(choir.sounds(pot));
        }
        return all.toString();
    }

    static void end() {
        System.out.println(asked + " answers asked, " + wrong + " not as due");
        if (wrong != 0 || asked == 0) {
            System.exit(1);
        }
    }
}
