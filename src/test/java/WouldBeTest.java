/** Promises 22 to 27: smallest, groups, needed, peace, firstShare, digest. */
final class WouldBeTest {
    private static final int NONE = CapsuleKeepers.NONE;

    public static void main(String[] args) {
        withoutCapsule();
        smallestAndGroups();
        smallestByInheritance();
        needed();
        neededByForgery();
        peace();
        peaceOfTheLiving();
        firstShare();
        digest();
        Checks.finish("WouldBeTest");
    }

    private static void dueAll(String when, CapsuleKeepers c, int size, int group, int groups, int needed) {
        Checks.due(when + ": smallest(0)", c.smallest(0), size);
        Checks.due(when + ": smallest(1)", c.smallest(1), group);
        Checks.due(when + ": groups()", c.groups(), groups);
        Checks.due(when + ": needed()", c.needed(), needed);
    }

    private static void duePeace(String when, CapsuleKeepers c, int former, int latter) {
        Checks.due(when + ": peace(false)", c.peace(false), former);
        Checks.due(when + ": peace(true)", c.peace(true), latter);
    }

    private static void withoutCapsule() {
        CapsuleKeepers c = Checks.withKeepers(3);
        c.quarrel(0, 1);
        dueAll("no capsule", c, NONE, NONE, 0, 0);
        duePeace("no capsule", c, NONE, NONE);
        Checks.dueDouble("no shares", c.firstShare(), 1.0);
        Checks.dueThrow("smallest(2)", c, Checks.ARGUMENT, () -> c.smallest(2));
        Checks.dueThrow("smallest(-1)", c, Checks.ARGUMENT, () -> c.smallest(-1));
    }

    private static void smallestAndGroups() {
        CapsuleKeepers c = Checks.withKeepers(3);
        c.seal(5, 2, 9999);
        dueAll("two of three, before the date", c, 2, 3, 4, 0);
        c.quarrel(0, 1);
        dueAll("0 and 1 quarrel", c, 2, 5, 2, 4);
        c.die(2);
        dueAll("and 2 is dead", c, NONE, NONE, 0, 0);
        c.undo();
        c.pass(999);
        Checks.due("too early", c.why(5), 4);
        CapsuleKeepers open = Checks.withKeepers(2);
        open.seal(5, 1, 0);
        dueAll("a quorum of 1", open, 1, 1, 3, 0);
        open.open(1);
        dueAll("open", open, NONE, NONE, 0, 0);
        CapsuleKeepers eight = Checks.withKeepers(8);
        eight.seal(5, 1, 0);
        dueAll("eight, each alone", eight, 1, 1, 255, 0);
        eight.seal(5, 8, 0);
        dueAll("eight, all", eight, 8, 255, 1, 255);
        eight.seal(5, 4, 0);
        dueAll("eight, four", eight, 4, 15, 163, 0);
    }

    private static void smallestByInheritance() {
        CapsuleKeepers c = Checks.withKeepers(4);
        c.seal(5, 3, 0);
        c.heir(0, 3);
        c.die(0);
        dueAll("3 owns two", c, 2, 10, 3, 8);
        c.heir(1, 3);
        c.die(1);
        dueAll("3 owns three", c, 1, 8, 2, 8);
        c.keeper();
        dueAll("one who owns nothing joins", c, 1, 8, 4, 8);
        c.heir(3, 4);
        dueAll("who would inherit", c, 1, 8, 4, 0);
        CapsuleKeepers high = Checks.withKeepers(4);
        high.seal(5, 2, 0);
        high.heir(2, 3);
        high.die(2);
        dueAll("the smallest has no low mask", high, 1, 8, 5, 0);
    }

    private static void needed() {
        CapsuleKeepers c = Checks.withKeepers(2);
        c.seal(9, 2, 50);
        dueAll("two of two", c, 2, 3, 1, 3);
        c.heir(0, 1);
        dueAll("1 is 0's heir", c, 2, 3, 1, 2);
        c.heir(1, 0);
        dueAll("each is the other's", c, 2, 3, 1, 0);
        c.quarrel(0, 1);
        dueAll("they quarrel", c, NONE, NONE, 0, 0);
        c.quarrel(0, 1);
        c.keeper();
        c.heir(0, 2);
        c.die(2);
        dueAll("the heir is dead", c, 2, 3, 1, 1);
    }

    private static void neededByForgery() {
        CapsuleKeepers c = Checks.withKeepers(3);
        c.seal(9, 2, 0);
        c.forge(2, (c.share(2, 0) + 5) % 251);
        dueAll("share 2 is forged", c, 2, 3, 2, 3);
        c.heir(0, 2);
        dueAll("0's share goes to 2, but alone 2 has a forged one", c, 2, 3, 2, 2);
    }

    private static void peace() {
        CapsuleKeepers c = Checks.withKeepers(4);
        c.seal(9, 2, 700);
        duePeace("no quarrel", c, NONE, NONE);
        c.quarrel(1, 0);
        c.quarrel(3, 2);
        Checks.due("groups now", c.groups(), 4);
        duePeace("as much by both", c, 0, 1);
        c.quarrel(0, 2);
        c.quarrel(0, 3);
        duePeace("most by the last", c, 2, 3);
        c.quarrel(2, 3);
        duePeace("the lowest latter", c, 0, 1);
        c.quarrel(0, 1);
        duePeace("0 with 2 and 3", c, 0, 2);
        c.seal(9, 4, 0);
        duePeace("two quarrels in the one group", c, NONE, NONE);
        c.quarrel(3, 0);
        duePeace("one quarrel in it", c, 0, 2);
        c.forge(3, (c.share(3, 0) + 1) % 251);
        duePeace("and one forged", c, NONE, NONE);
    }

    private static void peaceOfTheLiving() {
        CapsuleKeepers c = Checks.withKeepers(4);
        c.seal(9, 2, 0);
        c.quarrel(0, 1);
        c.quarrel(2, 3);
        c.die(0);
        duePeace("0 is dead", c, 2, 3);
        c.die(3);
        duePeace("3 is dead, too", c, NONE, NONE);
        c.undo();
        c.seal(9, 1, 0);
        duePeace("a quorum of 1", c, 2, 3);
        c.open(2);
        duePeace("open", c, NONE, NONE);
        CapsuleKeepers eight = Checks.withKeepers(8);
        eight.seal(1, 2, 0);
        eight.quarrel(7, 6);
        duePeace("the last pair", eight, 6, 7);
        eight.quarrel(3, 5);
        duePeace("the lower pair of two", eight, 3, 5);
    }

    private static void firstShare() {
        CapsuleKeepers c = Checks.withKeepers(8);
        c.seal(9, 2, 0);
        Checks.dueDouble("all", c.firstShare(), 1.0);
        c.heir(0, 1);
        c.die(0);
        Checks.dueDouble("seven of eight", c.firstShare(), 7.0 / 8.0);
        c.die(7);
        Checks.dueDouble("six of seven", c.firstShare(), 6.0 / 7.0);
        c.heir(1, 2);
        c.die(1);
        Checks.dueDouble("five of seven", c.firstShare(), 5.0 / 7.0);
        for (int keeper = 2; keeper <= 5; keeper++) {
            c.heir(keeper, 6);
            c.die(keeper);
        }
        Checks.dueDouble("one of seven", c.firstShare(), 1.0 / 7.0);
        c.die(6);
        Checks.dueDouble("none left", c.firstShare(), 1.0);
        CapsuleKeepers none = Checks.withKeepers(2);
        none.seal(1, 1, 0);
        none.heir(0, 1);
        none.die(0);
        none.keeper();
        none.heir(1, 2);
        none.die(1);
        Checks.dueDouble("none of two", none.firstShare(), 0.0);
    }

    private interface Step {
        void on(CapsuleKeepers c);
    }

    /** Each number of steps on an object of its own: by all values in turn one object would be called too often. */
    private static void digestBy(String when, String buffer, Step... steps) {
        for (int done = 0; done <= steps.length; done++) {
            CapsuleKeepers c = new CapsuleKeepers();
            Checks.write(c, buffer);
            for (int i = 0; i < done; i++) {
                steps[i].on(c);
            }
            long first = c.digest();
            Checks.due("digest(): " + when + ", step " + done, first, Digest.of(c, buffer));
            Checks.due("digest() again: " + when + ", step " + done, c.digest(), first);
        }
    }

    private static void fill(CapsuleKeepers c) {
        for (int i = 0; i < 8; i++) {
            c.keeper();
        }
    }

    private static void digest() {
        digestBy("keepers", "!~d", CapsuleKeepers::keeper, CapsuleKeepers::keeper, CapsuleKeepers::keeper,
            CapsuleKeepers::keeper, CapsuleKeepers::keeper, CapsuleKeepers::keeper, CapsuleKeepers::keeper,
            CapsuleKeepers::keeper);
        digestBy("a capsule", "", WouldBeTest::fill, c -> c.seal(123, 3, 10), c -> c.quarrel(0, 5),
            c -> c.heir(1, 2), c -> c.die(1), c -> c.die(7), c -> c.forge(4, 9), c -> c.pass(10), c -> c.open(28),
            c -> c.open(13), c -> c.die(0), CapsuleKeepers::undo);
        digestBy("forged", "d0", WouldBeTest::fill, c -> c.seal(250, 2, 9999),
            c -> c.forge(0, (c.share(0, 0) + 1) % 251), CapsuleKeepers::undo,
            c -> c.forge(7, (c.share(7, 0) + 1) % 251), c -> c.quarrel(2, 6));
        for (int keepers = 2; keepers < 8; keepers++) {
            for (int dead = 0; dead < keepers; dead++) {
                digestOfShares(keepers, dead);
            }
        }
    }

    /** Of some keepers the first ones are dead, and the last one has their shares; or also this one is dead. */
    private static void digestOfShares(int keepers, int dead) {
        CapsuleKeepers c = Checks.sealed(keepers, 200, 2, 0);
        for (int keeper = 0; keeper < dead; keeper++) {
            c.heir(keeper, keepers - 1);
            c.die(keeper);
        }
        if (dead == keepers - 1) {
            c.keeper();
            c.heir(keepers - 1, keepers);
            c.die(keepers - 1);
        }
        Checks.due("digest() of " + keepers + ", dead " + dead, c.digest(), Digest.of(c, ""));
    }
}
