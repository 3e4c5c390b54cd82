/** Promises 11 to 15: append, clearBuffer, firstError, live, undo. */
final class TextsTest {
    private static final int NONE = CapsuleKeepers.NONE;
    private static final String SIXTY = "t999;".repeat(12);

    public static void main(String[] args) {
        append();
        clearBuffer();
        firstError();
        liveRefuses();
        liveDoes();
        liveStops();
        undo();
        undoLeavesTheBuffer();
        Checks.finish("TextsTest");
    }

    private static void append() {
        CapsuleKeepers c = new CapsuleKeepers();
        Checks.dueThrow("append(32)", c, Checks.ARGUMENT, () -> c.append(32));
        Checks.dueThrow("append(127)", c, Checks.ARGUMENT, () -> c.append(127));
        Checks.dueThrow("append(-1)", c, Checks.ARGUMENT, () -> c.append(-1));
        Checks.dueThrow("append(65536 + 100)", c, Checks.ARGUMENT, () -> c.append(65636));
        Checks.due("append(33)", c.append(33), 1);
        Checks.due("append(126)", c.append(126), 2);
        for (int i = 2; i < 60; i++) {
            Checks.due("append('d')", c.append('d'), i + 1);
        }
        Checks.dueThrow("the 61st", c, Checks.STATE, () -> c.append('d'));
        Checks.dueThrow("the 61st, wrong", c, Checks.ARGUMENT, () -> c.append(32));
        Checks.due("nothing is saved", c.count(11), 0);
    }

    private static void clearBuffer() {
        CapsuleKeepers c = new CapsuleKeepers();
        Checks.due("clearBuffer() of none", c.clearBuffer(), 0);
        Checks.write(c, "d0");
        Checks.due("clearBuffer()", c.clearBuffer(), 2);
        Checks.due("cleared", c.clearBuffer(), 0);
        Checks.write(c, SIXTY);
        Checks.due("clearBuffer() of 60", c.clearBuffer(), 60);
        Checks.due("append after", c.append('r'), 1);
        Checks.due("nothing is saved", c.count(11), 0);
    }

    private static void error(String text, int want) {
        CapsuleKeepers c = new CapsuleKeepers();
        Checks.write(c, text);
        Checks.due("firstError() of " + text, c.firstError(), want);
        Checks.due("firstError() of " + text + " again", c.firstError(), want);
        Checks.due("buffer of " + text, c.clearBuffer(), text.length());
    }

    private static void firstError() {
        String[] none = {"", "d", "d0", "d7", "d3;", "q", "q0", "q0-", "q0-7", "q5-5", "h", "h7", "h7>", "h7>0",
            "t", "t1", "t9", "t10", "t999", "t100;", "t1;t12;t123", "r", "r;", "r;r;d1;q2-3;h4>5;t60", SIXTY};
        for (String text : none) {
            error(text, text.length());
        }
        error("x", 0);
        error(";", 0);
        error("D0", 0);
        error("0", 0);
        error("d8", 1);
        error("d;", 1);
        error("dd", 1);
        error("d00", 2);
        error("d1d2", 2);
        error("q8", 1);
        error("q1>2", 2);
        error("q1-8", 3);
        error("q1-2-", 4);
        error("h8", 1);
        error("h1-2", 2);
        error("h1>9", 3);
        error("h1>-1", 3);
        error("t0", 1);
        error("t01", 1);
        error("t;", 1);
        error("t1000", 4);
        error("t1:", 2);
        error("t1/", 2);
        error("t12x", 3);
        error("t123x", 4);
        error("r0", 1);
        error("rr", 1);
        error("d0;;", 3);
        error("d0;t5;x", 6);
        error("d0;r;t0r;", 6);
        error(SIXTY.substring(0, 59) + "x", 59);
    }

    private static void refused(String text) {
        CapsuleKeepers c = Checks.withKeepers(3);
        Checks.write(c, text);
        Checks.dueThrow("live() of " + text, c, Checks.ARGUMENT, c::live);
        Checks.due("the buffer stays: " + text, c.clearBuffer(), text.length());
        Checks.due("nothing is saved: " + text, c.count(11), 3);
    }

    private static void liveRefuses() {
        for (String text : new String[] {"", "d", "d0;", "q", "q0", "q0-", "h", "h0", "h0>", "t", "t0", "t1000",
            "t1;", "r;", "d0;x", "x", ";", "d0;;r", "d8", "d0d1", "t12d0", SIXTY}) {
            refused(text);
        }
    }

    private static void liveDoes() {
        CapsuleKeepers c = Checks.withKeepers(4);
        c.seal(11, 2, 100);
        Checks.due("five orders", Checks.liveBy(c, "h0>1;d0;q1-3;t100;r"), 5);
        Checks.due("heir", c.keeperOf(0, 1), 1);
        Checks.due("dead", c.keeperOf(0, 0), 0);
        Checks.due("quarrel", c.keeperOf(3, 3), 2);
        Checks.due("day", c.count(2), 100);
        Checks.due("renewed", c.count(8), 2);
        Checks.due("shares after", c.count(6), 3);
        Checks.due("the buffer is clear", c.clearBuffer(), 0);
        Checks.due("saved as one", c.count(11), 6);
        Checks.due("peace", Checks.liveBy(c, "q3-1"), 1);
        Checks.due("no quarrel", c.count(7), 0);
        Checks.due("t9", Checks.liveBy(c, "t9"), 1);
        Checks.due("day then", c.count(2), 109);
        Checks.due("t98;t765", Checks.liveBy(c, "t98;t765"), 2);
        Checks.due("day at last", c.count(2), 972);
        Checks.due("t1 after a longer text", Checks.liveBy(c, "t1"), 1);
        Checks.due("nothing of the longer text", c.count(2), 973);
        c.undo();
        c.undo();
        Checks.due("both are undone", c.count(2), 109);
        c.undo();
        c.undo();
        c.undo();
        Checks.due("lives again", c.count(1), 4);
        Checks.due("renewal undone", c.count(8), 1);
        Checks.due("thirty renewals", Checks.liveBy(c, "r;".repeat(29) + "r"), 30);
        Checks.due("dealings", c.count(8), 31);
        Checks.due("the key stays", c.told(15), 11);
    }

    private static void stops(CapsuleKeepers c, String text, int want) {
        int saved = c.count(11);
        Checks.due("live() of " + text, Checks.liveBy(c, text), want);
        Checks.due("saved by " + text, c.count(11), Math.min(6, saved + 1));
        Checks.due("the buffer after " + text, c.clearBuffer(), 0);
    }

    private static void liveStops() {
        stops(new CapsuleKeepers(), "d0", 0);
        stops(new CapsuleKeepers(), "q0-1;t5", 0);
        stops(new CapsuleKeepers(), "h0>1", 0);
        stops(new CapsuleKeepers(), "t5;r;t5", 1);
        CapsuleKeepers c = Checks.withKeepers(2);
        stops(c, "t7;d1;d1;t7", 2);
        Checks.due("up to the one that throws", c.count(2), 7);
        stops(c, "h0>1", 0);
        stops(c, "h1>0", 0);
        stops(c, "h0>0", 0);
        stops(c, "h0>2", 0);
        stops(c, "q0-0", 0);
        stops(c, "q0-1;q1-2", 1);
        stops(c, "q2-1", 0);
        stops(c, "d2", 0);
        c.seal(3, 1, 0);
        stops(c, "r;d0;r", 2);
        c.undo();
        c.open(1);
        stops(c, "r", 0);
        CapsuleKeepers late = new CapsuleKeepers();
        for (int i = 0; i < 84; i++) {
            late.pass(999);
        }
        stops(late, SIXTY.substring(0, 59), 12);
        Checks.due("the day", late.count(2), 95904);
        stops(late, "t999;t999;t999;t999;t99;t1;t1", 5);
        Checks.due("the last day", late.count(2), 99999);
        stops(late, "t1", 0);
    }

    private static void undo() {
        CapsuleKeepers c = Checks.withKeepers(8);
        Checks.due("eight calls, six states", c.count(11), 6);
        for (int left = 5; left >= 0; left--) {
            Checks.due("undo()", c.undo(), left);
            Checks.due("keepers", c.count(0), 2 + left);
            Checks.due("saved", c.count(11), left);
        }
        Checks.dueThrow("undo() of none", c, Checks.STATE, c::undo);
        Checks.due("keeper()", c.keeper(), 2);
        Checks.due("pass()", c.pass(4), 4);
        Checks.due("undo()", c.undo(), 1);
        Checks.due("day", c.count(2), 0);
        Checks.due("pass() anew", c.pass(5), 5);
        Checks.due("heir(0, NONE) changes nothing", c.heir(0, NONE), NONE);
        Checks.due("but saves", c.count(11), 3);
        Checks.due("undo()", c.undo(), 2);
        Checks.due("day stays", c.count(2), 5);
        long digest = c.digest();
        c.seal(44, 2, 0);
        c.forge(0, 1);
        c.open(3);
        c.quarrel(0, 1);
        c.undo();
        c.undo();
        c.undo();
        c.undo();
        Checks.due("all as before", c.digest(), digest);
    }

    private static void undoLeavesTheBuffer() {
        CapsuleKeepers c = Checks.withKeepers(2);
        Checks.write(c, "d0");
        c.pass(3);
        Checks.write(c, ";r");
        c.undo();
        Checks.due("the buffer is not undone", c.firstError(), 4);
        Checks.due("d0;r", c.live(), 1);
        c.undo();
        Checks.due("nor is its clearing", c.clearBuffer(), 0);
    }
}
