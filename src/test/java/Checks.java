/** Counts the answers that are not due; a test ends by finish(). */
final class Checks {
    static final Class<IllegalStateException> STATE = IllegalStateException.class;
    static final Class<IllegalArgumentException> ARGUMENT = IllegalArgumentException.class;
    static final Class<IndexOutOfBoundsException> INDEX = IndexOutOfBoundsException.class;

    private static int made = 0;
    private static int wrong = 0;
    private static String where = "";

    interface Call {
        void run();
    }

    private Checks() {
    }

    /** What is told ahead of each wrong answer from now on. */
    static void within(String place) {
        where = place;
    }

    static void due(String call, long got, long want) {
        made++;
        if (got != want) {
            wrong++;
            System.out.println(where + call + " answered " + got + ", due is " + want);
        }
    }

    static void dueDouble(String call, double got, double want) {
        due(call, Double.doubleToLongBits(got), Double.doubleToLongBits(want));
    }

    /** The call has to throw just this, and to leave the whole state as it was. */
    static void dueThrow(String call, CapsuleKeepers capsule, Class<? extends RuntimeException> want, Call body) {
        made++;
        long before = capsule.digest();
        Class<?> got = null;
        try {
            body.run();
        } catch (RuntimeException e) {
            got = e.getClass();
        }
        if (got != want) {
            wrong++;
            System.out.println(where + call + " threw " + got + ", due is " + want);
        }
        due(call + ", the state after its exception", capsule.digest(), before);
    }

    /** The call has to save one state, and undo() has to bring back all that was before it. */
    static void dueUndoable(String call, CapsuleKeepers capsule, Call body) {
        int saved = capsule.count(11);
        long before = capsule.digest();
        body.run();
        due(call + ", saved states", capsule.count(11), Math.min(saved + 1, 6));
        due(call + ", undo()", capsule.undo(), Math.min(saved, 5));
        if (saved < 6) {
            due(call + ", the state after undo()", capsule.digest(), before);
        }
    }

    /** Fills the saved states up to 6 by calls that change nothing but these; a keeper 0 has to live. */
    static void saveSix(CapsuleKeepers capsule) {
        for (int i = 0; i < 6; i++) {
            capsule.heir(0, capsule.keeperOf(0, 1));
        }
    }

    static CapsuleKeepers sealed(int keepers, int key, int quorum, int date) {
        CapsuleKeepers capsule = withKeepers(keepers);
        capsule.seal(key, quorum, date);
        return capsule;
    }

    static CapsuleKeepers withKeepers(int keepers) {
        CapsuleKeepers capsule = new CapsuleKeepers();
        for (int i = 0; i < keepers; i++) {
            capsule.keeper();
        }
        return capsule;
    }

    static void write(CapsuleKeepers capsule, String text) {
        for (int i = 0; i < text.length(); i++) {
            capsule.append(text.charAt(i));
        }
    }

    static int liveBy(CapsuleKeepers capsule, String text) {
        write(capsule, text);
        return capsule.live();
    }

    static void finish(String name) {
        System.out.println(name + ": " + made + " checks, " + wrong + " wrong");
        if (wrong != 0) {
            System.exit(1);
        }
    }
}
