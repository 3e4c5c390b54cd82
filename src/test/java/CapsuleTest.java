/** Promises 6 to 10: seal, renew, forge, pass, open. */
final class CapsuleTest {
    private static final int NONE = CapsuleKeepers.NONE;

    public static void main(String[] args) {
        seal();
        sealAgain();
        renew();
        forge();
        pass();
        open();
        reasonsInOrder();
        lowestSharesTell();
        eachSavesOnce();
        Checks.finish("CapsuleTest");
    }

    private static void seal() {
        CapsuleKeepers c = Checks.withKeepers(5);
        Checks.due("seal(123, 3, 40)", c.seal(123, 3, 40), 5);
        int[] values = {158, 85, 155, 117, 222};
        for (int share = 0; share < 5; share++) {
            Checks.due("value of " + share, c.share(share, 0), values[share]);
            Checks.due("owner of " + share, c.share(share, 1), share);
            Checks.due("forging of " + share, c.share(share, 2), 0);
        }
        Checks.due("no share 5", c.share(5, 0), NONE);
        Checks.due("x after two draws", c.count(10), 45377);
        Checks.due("stage", c.count(3), 1);
        Checks.due("quorum", c.count(4), 3);
        Checks.due("date", c.count(5), 40);
        Checks.due("dealings", c.count(8), 1);
        Checks.dueThrow("seal(-1, 1, 0)", c, Checks.ARGUMENT, () -> c.seal(-1, 1, 0));
        Checks.dueThrow("seal(251, 1, 0)", c, Checks.ARGUMENT, () -> c.seal(251, 1, 0));
        Checks.dueThrow("seal(0, 0, 0)", c, Checks.ARGUMENT, () -> c.seal(0, 0, 0));
        Checks.dueThrow("seal(0, 9, 0)", c, Checks.ARGUMENT, () -> c.seal(0, 9, 0));
        Checks.dueThrow("seal(0, 1, -1)", c, Checks.ARGUMENT, () -> c.seal(0, 1, -1));
        Checks.dueThrow("seal(0, 1, 10000)", c, Checks.ARGUMENT, () -> c.seal(0, 1, 10000));
        Checks.dueThrow("seal(0, 6, 10000)", c, Checks.ARGUMENT, () -> c.seal(0, 6, 10000));
        Checks.dueThrow("seal(0, 6, 0) by five", c, Checks.STATE, () -> c.seal(0, 6, 0));
        c.die(4);
        Checks.dueThrow("seal(0, 5, 0) by four", c, Checks.STATE, () -> c.seal(0, 5, 0));
        Checks.due("seal(250, 4, 9999)", c.seal(250, 4, 9999), 4);
        Checks.due("the dead get none", c.share(4, 0), NONE);
        CapsuleKeepers none = new CapsuleKeepers();
        Checks.dueThrow("seal(0, 1, 0) by none", none, Checks.STATE, () -> none.seal(0, 1, 0));
    }

    private static void sealAgain() {
        CapsuleKeepers c = Checks.withKeepers(8);
        Checks.due("seal(7, 1, 0)", c.seal(7, 1, 0), 8);
        Checks.due("a quorum of 1 draws nothing", c.count(10), 1);
        for (int share = 0; share < 8; share++) {
            Checks.due("the key itself", c.share(share, 0), 7);
        }
        c.forge(2, 9);
        c.open(1);
        Checks.due("open", c.count(3), 2);
        Checks.due("seal(0, 8, 5)", c.seal(0, 8, 5), 8);
        Checks.due("shut again", c.count(3), 1);
        Checks.due("no more forged", c.share(2, 2), 0);
        Checks.due("seven draws", c.count(10), 50867);
        Checks.due("dealings", c.count(8), 2);
        Checks.due("tries stay", c.keeperOf(0, 4), 1);
        Checks.due("undo()", c.undo(), 5);
        Checks.due("x is back", c.count(10), 1);
        Checks.due("open again", c.count(3), 2);
        Checks.due("dealings back", c.count(8), 1);
        Checks.due("told by the curves of before", c.told(4), 9);
        Checks.due("the date is back", c.count(5), 0);
        Checks.due("the quorum is back", c.count(4), 1);
    }

    private static void renew() {
        CapsuleKeepers c = Checks.withKeepers(4);
        Checks.dueThrow("renew() without a capsule", c, Checks.STATE, c::renew);
        c.seal(60, 3, 0);
        int[] before = new int[4];
        for (int share = 0; share < 4; share++) {
            before[share] = c.share(share, 0);
        }
        c.forge(0, (before[0] + 1) % 251);
        c.heir(3, 0);
        c.die(3);
        Checks.due("0 owns two", c.keeperOf(0, 2), 9);
        Checks.due("renew()", c.renew(), 3);
        Checks.due("0 owns one", c.keeperOf(0, 2), 1);
        Checks.due("share 3 is gone", c.share(3, 0), NONE);
        Checks.due("not forged", c.share(0, 2), 0);
        Checks.due("the same key", c.told(7), 60);
        Checks.due("dealings", c.count(8), 2);
        Checks.due("new shares", c.share(1, 0) == before[1] && c.share(2, 0) == before[2] ? 1 : 0, 0);
        Checks.due("quorum", c.count(4), 3);
        c.keeper();
        Checks.due("renew() with the late one", c.renew(), 4);
        Checks.due("who gets one", c.share(4, 1), 4);
        c.die(0);
        Checks.due("three live", c.renew(), 3);
        c.die(1);
        Checks.dueThrow("renew() by two", c, Checks.STATE, c::renew);
        c.undo();
        c.undo();
        Checks.due("dealings undone", c.count(8), 3);
        Checks.due("open(22)", c.open(22), 0);
        Checks.dueThrow("renew() of an open one", c, Checks.STATE, c::renew);
    }

    private static void forge() {
        CapsuleKeepers c = Checks.withKeepers(3);
        Checks.dueThrow("forge(0, 0) without a capsule", c, Checks.STATE, () -> c.forge(0, 0));
        c.seal(99, 2, 0);
        int value = c.share(1, 0);
        Checks.due("forge to the same", c.forge(1, value), value);
        Checks.due("forged also so", c.share(1, 2), 1);
        Checks.due("it opens all the same", c.why(3), 0);
        Checks.due("forge(1, 250)", c.forge(1, 250), value);
        Checks.due("what it is then", c.share(1, 0), 250);
        Checks.due("the key is wrong", c.why(3), value == 250 ? 0 : 6);
        Checks.due("forge(1, 0)", c.forge(1, 0), 250);
        Checks.due("others are not forged", c.share(0, 2), 0);
        Checks.dueThrow("forge(-1, 0)", c, Checks.ARGUMENT, () -> c.forge(-1, 0));
        Checks.dueThrow("forge(8, 0)", c, Checks.ARGUMENT, () -> c.forge(8, 0));
        Checks.dueThrow("forge(0, -1)", c, Checks.ARGUMENT, () -> c.forge(0, -1));
        Checks.dueThrow("forge(0, 251)", c, Checks.ARGUMENT, () -> c.forge(0, 251));
        Checks.dueThrow("forge(7, 251)", c, Checks.ARGUMENT, () -> c.forge(7, 251));
        Checks.dueThrow("forge(3, 0)", c, Checks.STATE, () -> c.forge(3, 0));
        Checks.dueThrow("forge(7, 0)", c, Checks.STATE, () -> c.forge(7, 0));
        c.undo();
        c.undo();
        c.undo();
        Checks.due("undone", c.share(1, 0), value);
        Checks.due("not forged", c.share(1, 2), 0);
        Checks.due("the key is told again", c.told(3), 99);
        c.open(3);
        Checks.due("forge() of an open one", c.forge(0, 4) >= 0 ? c.share(0, 0) : -9, 4);
        c.die(2);
        Checks.dueThrow("forge(2, 0), gone", c, Checks.STATE, () -> c.forge(2, 0));
    }

    private static void pass() {
        CapsuleKeepers c = new CapsuleKeepers();
        Checks.due("pass(1)", c.pass(1), 1);
        Checks.due("pass(999)", c.pass(999), 1000);
        Checks.dueThrow("pass(0)", c, Checks.ARGUMENT, () -> c.pass(0));
        Checks.dueThrow("pass(-5)", c, Checks.ARGUMENT, () -> c.pass(-5));
        Checks.dueThrow("pass(1000)", c, Checks.ARGUMENT, () -> c.pass(1000));
        for (int i = 0; i < 99; i++) {
            c.pass(999);
        }
        Checks.due("the day", c.count(2), 99901);
        Checks.dueThrow("pass(99) to 100000", c, Checks.STATE, () -> c.pass(99));
        Checks.dueThrow("pass(1000) there", c, Checks.ARGUMENT, () -> c.pass(1000));
        Checks.due("pass(98) to 99999", c.pass(98), 99999);
        Checks.dueThrow("pass(1) to 100000", c, Checks.STATE, () -> c.pass(1));
        Checks.due("undo()", c.undo(), 5);
        Checks.due("the day before", c.count(2), 99901);
    }

    private static void open() {
        CapsuleKeepers c = Checks.withKeepers(3);
        Checks.due("open(1) without a capsule", c.open(1), 1);
        Checks.due("a try", c.keeperOf(0, 4), 1);
        Checks.due("refused", c.count(9), 1);
        Checks.dueThrow("open(8)", c, Checks.ARGUMENT, () -> c.open(8));
        Checks.dueThrow("open(256)", c, Checks.ARGUMENT, () -> c.open(256));
        Checks.dueThrow("open(-1)", c, Checks.ARGUMENT, () -> c.open(-1));
        c.seal(5, 2, 3);
        Checks.due("open(0)", c.open(0), 2);
        Checks.due("too early", c.open(6), 4);
        c.pass(2);
        Checks.due("still too early", c.open(6), 4);
        c.pass(1);
        Checks.due("the date has come", c.open(6), 0);
        Checks.due("open", c.count(3), 2);
        Checks.due("refused", c.count(9), 4);
        Checks.due("tries of 1", c.keeperOf(1, 4), 3);
        Checks.due("tries of 0", c.keeperOf(0, 4), 1);
        Checks.due("open(6) again", c.open(6), 1);
        Checks.due("refused again", c.count(9), 5);
        Checks.due("tries of 2", c.keeperOf(2, 4), 4);
        Checks.due("undo()", c.undo(), 5);
        Checks.due("refused, undone", c.count(9), 4);
        c.undo();
        Checks.due("shut again", c.count(3), 1);
        Checks.due("tries undone", c.keeperOf(1, 4), 2);
        c.die(0);
        Checks.due("the dead try, too", c.open(7), 2);
        Checks.due("tries of the dead", c.keeperOf(0, 4), 2);
        CapsuleKeepers eight = Checks.withKeepers(8);
        eight.seal(250, 8, 0);
        Checks.due("open(127)", eight.open(127), 5);
        Checks.due("open(255)", eight.open(255), 0);
        Checks.dueThrow("open(256) of eight", eight, Checks.ARGUMENT, () -> eight.open(256));
    }

    private static void reasonsInOrder() {
        CapsuleKeepers c = Checks.withKeepers(5);
        c.quarrel(0, 1);
        c.seal(31, 3, 1);
        c.die(4);
        Checks.due("dead before quarrel", c.why(19), 2);
        Checks.due("quarrel before date", c.why(3), 3);
        Checks.due("date before shares", c.why(4), 4);
        c.pass(1);
        Checks.due("quarrel before shares", c.why(3), 3);
        Checks.due("shares", c.why(12), 5);
        Checks.due("why(0)", c.why(0), 2);
        c.forge(2, (c.share(2, 0) + 1) % 251);
        Checks.due("shares before the key", c.why(12), 5);
        Checks.due("the key", c.why(13), 6);
        c.quarrel(1, 0);
        Checks.due("the key of three of four", c.why(15), 6);
        c.quarrel(4, 0);
        Checks.due("with a dead one nobody bothers", c.why(11), 0);
        c.open(11);
        Checks.due("open before all", c.why(19), 1);
    }

    private static void lowestSharesTell() {
        CapsuleKeepers c = Checks.withKeepers(4);
        c.seal(17, 2, 0);
        c.forge(3, (c.share(3, 0) + 7) % 251);
        Checks.due("the forged one is not asked", c.why(11), 0);
        Checks.due("the forged one is asked", c.why(10), 6);
        c.heir(0, 3);
        c.die(0);
        Checks.due("0's share is asked with 3's", c.why(8), 6);
        Checks.due("0's and 1's shares are asked", c.why(10), 0);
    }

    private static void eachSavesOnce() {
        CapsuleKeepers c = Checks.withKeepers(1);
        long sealing = c.digest();
        c.seal(8, 1, 1);
        long renewal = c.digest();
        c.renew();
        long forging = c.digest();
        c.forge(0, 9);
        long passing = c.digest();
        c.pass(1);
        long opening = c.digest();
        c.open(1);
        Checks.due("saved states", c.count(11), 6);
        Checks.due("undo of open()", c.undo(), 5);
        Checks.due("before open()", c.digest(), opening);
        Checks.due("undo of pass()", c.undo(), 4);
        Checks.due("before pass()", c.digest(), passing);
        Checks.due("undo of forge()", c.undo(), 3);
        Checks.due("before forge()", c.digest(), forging);
        Checks.due("undo of renew()", c.undo(), 2);
        Checks.due("before renew()", c.digest(), renewal);
        Checks.due("undo of seal()", c.undo(), 1);
        Checks.due("before seal()", c.digest(), sealing);
    }
}
