/** Promises 16 to 21: keeperOf, share, count, why, told, possible. */
final class LooksTest {
    private static final int NONE = CapsuleKeepers.NONE;

    public static void main(String[] args) {
        keeperOf();
        share();
        count();
        why();
        told();
        toldByEverySet();
        possible();
        looksChangeNothing();
        Checks.finish("LooksTest");
    }

    private static void keeperOf() {
        CapsuleKeepers c = Checks.withKeepers(3);
        c.seal(1, 2, 0);
        c.heir(1, 2);
        c.quarrel(0, 2);
        c.die(1);
        c.open(7);
        c.open(4);
        int[][] want = {{1, NONE, 1, 4, 1}, {0, 2, 0, 0, 1}, {1, NONE, 6, 1, 2}};
        for (int keeper = 0; keeper < 3; keeper++) {
            for (int what = 0; what <= 4; what++) {
                Checks.due("keeperOf(" + keeper + ", " + what + ")", c.keeperOf(keeper, what), want[keeper][what]);
            }
        }
        Checks.dueThrow("keeperOf(3, 0)", c, Checks.INDEX, () -> c.keeperOf(3, 0));
        Checks.dueThrow("keeperOf(-1, 0)", c, Checks.INDEX, () -> c.keeperOf(-1, 0));
        Checks.dueThrow("keeperOf(3, 5)", c, Checks.INDEX, () -> c.keeperOf(3, 5));
        Checks.dueThrow("keeperOf(0, 5)", c, Checks.ARGUMENT, () -> c.keeperOf(0, 5));
        Checks.dueThrow("keeperOf(0, -1)", c, Checks.ARGUMENT, () -> c.keeperOf(0, -1));
        CapsuleKeepers eight = Checks.withKeepers(8);
        Checks.due("keeperOf(7, 0)", eight.keeperOf(7, 0), 1);
        Checks.dueThrow("keeperOf(8, 0)", eight, Checks.INDEX, () -> eight.keeperOf(8, 0));
    }

    private static void share() {
        CapsuleKeepers c = Checks.withKeepers(8);
        Checks.due("share(0, 0) without a capsule", c.share(0, 0), NONE);
        c.seal(250, 1, 0);
        c.heir(7, 0);
        c.die(7);
        c.forge(7, 12);
        Checks.due("share(7, 0)", c.share(7, 0), 12);
        Checks.due("share(7, 1)", c.share(7, 1), 0);
        Checks.due("share(7, 2)", c.share(7, 2), 1);
        Checks.due("share(6, 0)", c.share(6, 0), 250);
        Checks.due("share(6, 1)", c.share(6, 1), 6);
        Checks.due("share(6, 2)", c.share(6, 2), 0);
        c.die(6);
        for (int what = 0; what <= 2; what++) {
            Checks.due("a share that is gone", c.share(6, what), NONE);
        }
        Checks.dueThrow("share(-1, 0)", c, Checks.ARGUMENT, () -> c.share(-1, 0));
        Checks.dueThrow("share(8, 0)", c, Checks.ARGUMENT, () -> c.share(8, 0));
        Checks.dueThrow("share(0, 3)", c, Checks.ARGUMENT, () -> c.share(0, 3));
        Checks.dueThrow("share(0, -1)", c, Checks.ARGUMENT, () -> c.share(0, -1));
        Checks.dueThrow("share(6, 3), gone", c, Checks.ARGUMENT, () -> c.share(6, 3));
        c.renew();
        Checks.due("gone by renewal", c.share(7, 0), NONE);
    }

    private static void counts(String when, CapsuleKeepers c, int... want) {
        for (int what = 0; what < 12; what++) {
            Checks.due(when + ": count(" + what + ")", c.count(what), want[what]);
        }
    }

    private static void count() {
        CapsuleKeepers c = Checks.withKeepers(4);
        counts("four keepers", c, 4, 4, 0, 0, NONE, NONE, 0, 0, 0, 0, 1, 4);
        c.seal(10, 2, 6);
        counts("sealed", c, 4, 4, 0, 1, 2, 6, 4, 0, 1, 0, 11384, 5);
        c.die(3);
        c.quarrel(3, 1);
        c.quarrel(0, 1);
        counts("a death and quarrels", c, 4, 3, 0, 1, 2, 6, 3, 2, 1, 0, 11384, 6);
        c.open(5);
        c.pass(6);
        c.renew();
        counts("renewed", c, 4, 3, 6, 1, 2, 6, 3, 2, 2, 1, (int) ((171L * 11384 + 11213) % 53125), 6);
        c.open(5);
        counts("open", c, 4, 3, 6, 2, 2, 6, 3, 2, 2, 1, (int) ((171L * 11384 + 11213) % 53125), 6);
        Checks.dueThrow("count(-1)", c, Checks.ARGUMENT, () -> c.count(-1));
        Checks.dueThrow("count(12)", c, Checks.ARGUMENT, () -> c.count(12));
        Checks.dueThrow("count(min)", c, Checks.ARGUMENT, () -> c.count(Integer.MIN_VALUE));
    }

    private static void why() {
        CapsuleKeepers c = Checks.withKeepers(3);
        Checks.due("why(0) without a capsule", c.why(0), 1);
        Checks.due("why(7) without a capsule", c.why(7), 1);
        c.seal(4, 2, 1);
        Checks.due("why(0)", c.why(0), 2);
        Checks.due("why(7)", c.why(7), 4);
        c.pass(1);
        Checks.due("why(7)", c.why(7), 0);
        Checks.due("why(2)", c.why(2), 5);
        Checks.due("no try is counted", c.keeperOf(1, 4), 0);
        Checks.due("no refusal is counted", c.count(9), 0);
        Checks.due("it stays shut", c.count(3), 1);
        c.forge(0, (c.share(0, 0) + 1) % 251);
        Checks.due("why(5)", c.why(5), 6);
        c.quarrel(2, 1);
        Checks.due("why(6)", c.why(6), 3);
        c.die(2);
        Checks.due("why(6) with a dead one", c.why(6), 2);
        Checks.dueThrow("why(8)", c, Checks.ARGUMENT, () -> c.why(8));
        Checks.dueThrow("why(9)", c, Checks.ARGUMENT, () -> c.why(9));
        Checks.dueThrow("why(256)", c, Checks.ARGUMENT, () -> c.why(256));
        Checks.dueThrow("why(-1)", c, Checks.ARGUMENT, () -> c.why(-1));
    }

    private static void told() {
        CapsuleKeepers c = Checks.withKeepers(4);
        Checks.due("told(0) without a capsule", c.told(0), NONE);
        Checks.due("told(15) without a capsule", c.told(15), NONE);
        c.seal(100, 2, 9000);
        for (int shares = 0; shares < 256; shares++) {
            int want = shares < 16 && Integer.bitCount(shares) >= 2 ? 100 : NONE;
            Checks.due("told(" + shares + ")", c.told(shares), want);
        }
        Checks.dueThrow("told(256)", c, Checks.ARGUMENT, () -> c.told(256));
        Checks.dueThrow("told(-1)", c, Checks.ARGUMENT, () -> c.told(-1));
        // the line through (1, 3) and (2, 8) is at -2 by 0; the one through (1, 3) and (4, 0) at 4
        c.forge(0, 3);
        c.forge(1, 8);
        c.forge(3, 0);
        Checks.due("told(3)", c.told(3), 249);
        Checks.due("told(9)", c.told(9), 4);
        Checks.due("the lowest two tell", c.told(11), 249);
        Checks.due("the lowest two tell", c.told(15), 249);
        c.die(2);
        Checks.due("one is not there", c.told(15), NONE);
        Checks.due("these are there", c.told(11), 249);
        c.forge(0, (c.told(0) + 1 + 100) % 251);
        c.undo();
        c.open(3);
        Checks.due("open() is refused, the same is told", c.told(3), 249);
        CapsuleKeepers one = Checks.withKeepers(8);
        one.seal(33, 1, 0);
        one.forge(7, 44);
        one.open(1);
        Checks.due("an open one is a capsule, too", one.told(128), 44);
        Checks.due("the lowest one tells", one.told(192), 33);
    }

    private static void toldByEverySet() {
        for (int quorum = 1; quorum <= 8; quorum++) {
            int key = 31 * quorum % 251;
            CapsuleKeepers c = Checks.sealed(8, key, quorum, 0);
            CapsuleKeepers twin = Checks.sealed(8, key, quorum, 0);
            for (int shares = 0; shares < 256; shares++) {
                int size = Integer.bitCount(shares);
                Checks.due("quorum " + quorum + ": told(" + shares + ")", c.told(shares), size < quorum ? NONE : key);
                Checks.due("quorum " + quorum + ": possible(" + shares + ")", twin.possible(shares),
                    size < quorum ? 251 : 1);
            }
        }
    }

    private static void possible() {
        CapsuleKeepers c = Checks.withKeepers(5);
        Checks.due("possible(0) without a capsule", c.possible(0), NONE);
        c.seal(8, 2, 0);
        Checks.due("possible(0)", c.possible(0), 251);
        Checks.due("possible(16)", c.possible(16), 251);
        Checks.due("possible(17)", c.possible(17), 1);
        Checks.due("possible(31)", c.possible(31), 1);
        Checks.due("possible(32)", c.possible(32), NONE);
        c.forge(4, (c.share(4, 0) + 1) % 251);
        Checks.due("two points are always on a line", c.possible(17), 1);
        Checks.due("the last does not fit", c.possible(31), 0);
        Checks.due("nor with two more", c.possible(19), 0);
        Checks.due("without it", c.possible(15), 1);
        c.undo();
        c.forge(0, (c.share(0, 0) + 1) % 251);
        Checks.due("the first does not fit", c.possible(31), 0);
        Checks.due("without it", c.possible(30), 1);
        c.undo();
        c.forge(2, (c.share(2, 0) + 250) % 251);
        Checks.due("the middle does not fit", c.possible(31), 0);
        Checks.due("three of them", c.possible(7), 0);
        Checks.due("without it", c.possible(27), 1);
        c.die(0);
        Checks.due("one is not there", c.possible(1), NONE);
        c.undo();
        c.open(3);
        Checks.due("an open one", c.possible(3), 1);
        Checks.dueThrow("possible(256)", c, Checks.ARGUMENT, () -> c.possible(256));
        Checks.dueThrow("possible(-1)", c, Checks.ARGUMENT, () -> c.possible(-1));
        possibleByForgedCurve();
    }

    private static void possibleByForgedCurve() {
        CapsuleKeepers c = Checks.withKeepers(4);
        c.seal(0, 1, 0);
        for (int share = 0; share < 4; share++) {
            c.forge(share, 77);
        }
        Checks.due("all forged to one curve", c.possible(15), 1);
        Checks.due("its key", c.told(15), 77);
        Checks.due("no key of the capsule", c.why(15), 6);
        c.forge(3, 78);
        Checks.due("a quorum of 1 and two values", c.possible(15), 0);
        Checks.due("a quorum of 1 and none", c.possible(0), 251);
    }

    private static void looksChangeNothing() {
        CapsuleKeepers c = Checks.withKeepers(6);
        c.seal(90, 3, 0);
        c.quarrel(0, 1);
        c.heir(0, 2);
        int[] before = new int[12];
        for (int what = 0; what < 12; what++) {
            before[what] = c.count(what);
        }
        c.why(63);
        c.told(63);
        c.possible(63);
        c.smallest(0);
        c.groups();
        c.needed();
        c.peace(true);
        c.firstShare();
        c.digest();
        counts("after looks", c, before);
        Checks.due("0 owns as before", c.keeperOf(0, 2), 1);
        Checks.due("0 lives as before", c.keeperOf(0, 0), 1);
    }
}
