/** Promises 1 to 5: a new object, keeper, die, heir, quarrel. */
final class KeepersTest {
    private static final int NONE = CapsuleKeepers.NONE;

    public static void main(String[] args) {
        newObject();
        keeper();
        die();
        dieWithAnHeir();
        heir();
        quarrel();
        Checks.finish("KeepersTest");
    }

    private static void newObject() {
        CapsuleKeepers c = new CapsuleKeepers();
        int[] want = {0, 0, 0, 0, NONE, NONE, 0, 0, 0, 0, 1, 0};
        for (int what = 0; what < want.length; what++) {
            Checks.due("new: count(" + what + ")", c.count(what), want[what]);
        }
        for (int share = 0; share < 8; share++) {
            Checks.due("new: share " + share, c.share(share, 0), NONE);
        }
        Checks.due("new: buffer", c.clearBuffer(), 0);
        Checks.due("new: why(0)", c.why(0), 1);
        Checks.due("NONE", NONE, -1);
        Checks.dueThrow("new: undo()", c, Checks.STATE, c::undo);
        Checks.dueThrow("new: keeperOf(0, 0)", c, Checks.INDEX, () -> c.keeperOf(0, 0));
    }

    private static void keeper() {
        CapsuleKeepers c = new CapsuleKeepers();
        for (int i = 0; i < 8; i++) {
            Checks.due("keeper()", c.keeper(), i);
            Checks.due("keepers", c.count(0), i + 1);
            Checks.due("they live", c.count(1), i + 1);
            Checks.due("saved states", c.count(11), Math.min(i + 1, 6));
            int[] want = {1, NONE, 0, 0, 0};
            for (int what = 0; what <= 4; what++) {
                Checks.due("keeperOf(" + i + ", " + what + ")", c.keeperOf(i, what), want[what]);
            }
        }
        Checks.dueThrow("the ninth keeper()", c, Checks.STATE, c::keeper);

        CapsuleKeepers late = Checks.withKeepers(2);
        late.seal(9, 2, 0);
        late.die(0);
        Checks.due("keeper() after a death", late.keeper(), 2);
        Checks.due("one who came late owns nothing", late.keeperOf(2, 2), 0);
        Checks.due("no share of a late one", late.share(2, 0), NONE);
        Checks.due("undo()", late.undo(), 4);
        Checks.due("keepers after undo", late.count(0), 2);
    }

    private static void die() {
        CapsuleKeepers c = Checks.withKeepers(8);
        c.seal(200, 3, 0);
        Checks.due("die(7) without an heir", c.die(7), 0);
        Checks.due("7 is dead", c.keeperOf(7, 0), 0);
        Checks.due("7 owns nothing", c.keeperOf(7, 2), 0);
        Checks.due("the share is gone", c.share(7, 0), NONE);
        Checks.due("its owner too", c.share(7, 1), NONE);
        Checks.due("and its forging", c.share(7, 2), NONE);
        Checks.due("shares left", c.count(6), 7);
        Checks.due("keepers", c.count(0), 8);
        Checks.due("living", c.count(1), 7);
        Checks.dueThrow("die(7) again", c, Checks.STATE, () -> c.die(7));
        Checks.dueThrow("die(8)", c, Checks.INDEX, () -> c.die(8));
        Checks.dueThrow("die(-1)", c, Checks.INDEX, () -> c.die(-1));
        Checks.dueThrow("die(max)", c, Checks.INDEX, () -> c.die(Integer.MAX_VALUE));
        c.undo();
        Checks.due("the share is back", c.share(7, 1), 7);
        Checks.due("7 lives", c.keeperOf(7, 0), 1);
        CapsuleKeepers few = Checks.withKeepers(3);
        Checks.dueThrow("die(3) of three", few, Checks.INDEX, () -> few.die(3));
        Checks.due("die(0) without a capsule", few.die(0), 0);
    }

    private static void dieWithAnHeir() {
        CapsuleKeepers c = Checks.withKeepers(4);
        c.seal(1, 2, 0);
        c.heir(0, 1);
        c.heir(1, 2);
        c.heir(2, 3);
        Checks.due("die(0)", c.die(0), 1);
        Checks.due("1 owns two", c.keeperOf(1, 2), 3);
        Checks.due("share 0 is 1's", c.share(0, 1), 1);
        Checks.due("2 dies first", c.die(2), 1);
        Checks.due("3 owns two", c.keeperOf(3, 2), 12);
        Checks.due("1's heir stays named", c.keeperOf(1, 1), 2);
        Checks.due("the heir of the heir does not matter", c.die(1), 0);
        Checks.due("3 has no more", c.keeperOf(3, 2), 12);
        Checks.due("two shares are gone", c.count(6), 2);
        Checks.due("the dead one keeps the heir's name", c.keeperOf(0, 1), 1);

        CapsuleKeepers chain = Checks.withKeepers(3);
        chain.seal(1, 1, 0);
        chain.heir(0, 1);
        chain.heir(1, 2);
        chain.die(0);
        Checks.due("two shares go on", chain.die(1), 2);
        Checks.due("2 owns three", chain.keeperOf(2, 2), 7);
        Checks.due("a forged share goes on, too", chain.forge(0, 5) >= 0 ? chain.share(0, 1) : -9, 2);
    }

    private static void heir() {
        CapsuleKeepers c = Checks.withKeepers(3);
        Checks.due("heir(0, 1)", c.heir(0, 1), NONE);
        Checks.due("heir(0, 2)", c.heir(0, 2), 1);
        Checks.due("keeperOf(0, 1)", c.keeperOf(0, 1), 2);
        Checks.due("heir(0, NONE)", c.heir(0, NONE), 2);
        Checks.due("no heir", c.keeperOf(0, 1), NONE);
        Checks.due("heir(1, 0)", c.heir(1, 0), NONE);
        Checks.due("heir(0, 1) back", c.heir(0, 1), NONE);
        Checks.due("undo()", c.undo(), 5);
        Checks.due("after undo", c.keeperOf(0, 1), NONE);
        Checks.dueThrow("heir(3, 0)", c, Checks.INDEX, () -> c.heir(3, 0));
        Checks.dueThrow("heir(-1, 0)", c, Checks.INDEX, () -> c.heir(-1, 0));
        Checks.dueThrow("heir(-1, -1)", c, Checks.INDEX, () -> c.heir(-1, -1));
        Checks.dueThrow("heir(0, 3)", c, Checks.INDEX, () -> c.heir(0, 3));
        Checks.dueThrow("heir(0, -2)", c, Checks.INDEX, () -> c.heir(0, -2));
        Checks.dueThrow("heir(1, 1)", c, Checks.STATE, () -> c.heir(1, 1));
        c.die(2);
        Checks.dueThrow("heir(2, NONE), dead", c, Checks.STATE, () -> c.heir(2, NONE));
        Checks.dueThrow("heir(2, 0), dead", c, Checks.STATE, () -> c.heir(2, 0));
        Checks.dueThrow("heir(0, 2), dead", c, Checks.STATE, () -> c.heir(0, 2));
        Checks.dueThrow("heir(2, 3), dead and not there", c, Checks.INDEX, () -> c.heir(2, 3));
    }

    private static void quarrel() {
        CapsuleKeepers c = Checks.withKeepers(4);
        Checks.due("quarrel(0, 1)", c.quarrel(0, 1), 1);
        Checks.due("quarrel(2, 0)", c.quarrel(2, 0), 1);
        Checks.due("quarrel(0, 3)", c.quarrel(0, 3), 3);
        Checks.due("0 quarrels", c.keeperOf(0, 3), 14);
        Checks.due("3 quarrels", c.keeperOf(3, 3), 1);
        Checks.due("pairs", c.count(7), 3);
        c.die(3);
        Checks.due("with the dead, too", c.quarrel(0, 2), 2);
        Checks.due("pairs with the dead", c.count(7), 2);
        Checks.due("the dead make peace", c.quarrel(3, 0), 0);
        Checks.due("0 quarrels on", c.keeperOf(0, 3), 2);
        Checks.due("the dead quarrel", c.quarrel(3, 2), 1);
        Checks.dueThrow("quarrel(1, 1)", c, Checks.STATE, () -> c.quarrel(1, 1));
        Checks.dueThrow("quarrel(4, 4)", c, Checks.INDEX, () -> c.quarrel(4, 4));
        Checks.dueThrow("quarrel(0, 4)", c, Checks.INDEX, () -> c.quarrel(0, 4));
        Checks.dueThrow("quarrel(-1, 0)", c, Checks.INDEX, () -> c.quarrel(-1, 0));
        Checks.dueThrow("quarrel(0, -1)", c, Checks.INDEX, () -> c.quarrel(0, -1));
        c.undo();
        Checks.due("undone", c.keeperOf(3, 3), 0);
    }
}
