/** Counts the answers that are not due; a test ends by finish(). */
final class Checks {
    static final Class<IllegalStateException> STATE = IllegalStateException.class;
    static final Class<IllegalArgumentException> ARGUMENT = IllegalArgumentException.class;
    static final Class<IndexOutOfBoundsException> INDEX = IndexOutOfBoundsException.class;

    private static int made = 0;
    private static int wrong = 0;

    interface Call {
        void run();
    }

    private Checks() {
    }

    static void due(String call, long got, long want) {
        made++;
        if (got != want) {
            wrong++;
            System.out.println(call + " answered " + got + ", due is " + want);
        }
    }

    static void dueDouble(String call, double got, double want) {
        due(call, Double.doubleToLongBits(got), Double.doubleToLongBits(want));
    }

    /** The call has to throw just this, and to leave the whole state as it was. */
    static void dueThrow(String call, CapsuleKeepers capsule, Class<? extends RuntimeException> want, Call body) {
        made++;
        long before = capsule.digest();
        Class<?> got = null;
        try {
            body.run();
        } catch (RuntimeException e) {
            got = e.getClass();
        }
        if (got != want) {
            wrong++;
            System.out.println(call + " threw " + got + ", due is " + want);
        }
        due(call + ", the state after its exception", capsule.digest(), before);
    }

    static CapsuleKeepers withKeepers(int keepers) {
        CapsuleKeepers capsule = new CapsuleKeepers();
        for (int i = 0; i < keepers; i++) {
            capsule.keeper();
        }
        return capsule;
    }

    static void write(CapsuleKeepers capsule, String text) {
        for (int i = 0; i < text.length(); i++) {
            capsule.append(text.charAt(i));
        }
    }

    static int liveBy(CapsuleKeepers capsule, String text) {
        write(capsule, text);
        return capsule.live();
    }

    static void finish(String name) {
        System.out.println(name + ": " + made + " checks, " + wrong + " wrong");
        if (wrong != 0) {
            System.exit(1);
        }
    }
}
