/** The boundary cases that promises 16 to 21 name, each sentence by a test of its own. */
final class EdgesOfLooks {
    private static final int NONE = CapsuleKeepers.NONE;
    private static final int LEAST = Integer.MIN_VALUE;
    private static final int MOST = Integer.MAX_VALUE;

    private EdgesOfLooks() {
    }

    static void run() {
        keeperOf();
        share();
        count();
        why();
        told();
        possible();
    }

    private static void keeperOf() {
        Sentences.holds(16, "Returns a property of a keeper.", () -> {
            CapsuleKeepers c = Checks.withKeepers(1);
            int[] want = {1, NONE, 0, 0, 0};
            for (int what = 0; what <= 4; what++) {
                Checks.due("of a new one: " + what, c.keeperOf(0, what), want[what]);
            }
        });
        Sentences.holds(16, "- `keeper`: the number", () -> {
            CapsuleKeepers c = Checks.sealed(8, 5, 1, 0);
            for (int keeper = 0; keeper < 8; keeper++) {
                Checks.due("what " + keeper + " owns", c.keeperOf(keeper, 2), 1 << keeper);
            }
        });
        Sentences.holds(16, "- `what`: 0: 1 if the keeper lives, otherwise 0; 1: the heir, NONE without one; 2: the "
            + "shares that this one owns, as a mask; 3: the keepers with whom this one quarrels, as a mask; 4: how "
            + "often this one was in a group that tried to open so far", () -> {
            CapsuleKeepers c = Checks.sealed(8, 5, 8, 0);
            for (int other = 1; other < 8; other++) {
                c.quarrel(0, other);
                c.heir(other, 0);
                c.die(other);
            }
            Checks.due("all shares", c.keeperOf(0, 2), 255);
            Checks.due("all the others", c.keeperOf(0, 3), 254);
            Checks.due("a dead one owns none", c.keeperOf(7, 2), 0);
            Checks.due("a dead one quarrels", c.keeperOf(7, 3), 1);
            Checks.due("a dead one has the heir", c.keeperOf(7, 1), 0);
            Checks.due("a dead one", c.keeperOf(7, 0), 0);
            for (int i = 1; i <= 20; i++) {
                c.open(129);
                Checks.due("refused tries of a dead one", c.keeperOf(7, 4), i);
            }
            c.open(1);
            c.open(1);
            Checks.due("tries, the last two open or too late", c.keeperOf(0, 4), 22);
            Checks.due("who was in none", c.keeperOf(6, 4), 0);
        });
        Sentences.holds(16, "Returns the property.", () -> {
            CapsuleKeepers c = Checks.withKeepers(2);
            c.heir(1, 0);
            Checks.due("the heir 0 is not NONE", c.keeperOf(1, 1), 0);
        });
        Sentences.holds(16, "Throws `IndexOutOfBoundsException` if there is no such keeper", () -> {
            for (int keepers = 0; keepers <= 8; keepers++) {
                CapsuleKeepers c = Checks.withKeepers(keepers);
                for (int nobody : new int[] {-1, keepers, 8, 32, LEAST, MOST}) {
                    for (int what = -1; what <= 5; what++) {
                        int w = what;
                        Checks.dueThrow("keeperOf(" + nobody + ", " + what + ")", c, Checks.INDEX,
                            () -> c.keeperOf(nobody, w));
                    }
                }
            }
        });
        Sentences.holds(16, "Throws `IllegalArgumentException` if what is not 0 to 4", () -> {
            CapsuleKeepers c = Checks.withKeepers(8);
            c.die(7);
            for (int what : new int[] {-1, 5, LEAST, MOST}) {
                Checks.dueThrow("keeperOf(0, " + what + ")", c, Checks.ARGUMENT, () -> c.keeperOf(0, what));
                Checks.dueThrow("keeperOf(7, " + what + ")", c, Checks.ARGUMENT, () -> c.keeperOf(7, what));
            }
        });
    }

    private static void share() {
        Sentences.holds(17, "Returns a property of a share.", () -> {
            CapsuleKeepers c = Checks.sealed(1, 250, 1, 0);
            Checks.due("value", c.share(0, 0), 250);
            Checks.due("owner", c.share(0, 1), 0);
            Checks.due("forged", c.share(0, 2), 0);
        });
        Sentences.holds(17, "- `share`: 0 to 7", () -> {
            CapsuleKeepers c = Checks.sealed(8, 0, 1, 0);
            for (int share = 0; share < 8; share++) {
                c.forge(share, 100 + share);
            }
            for (int share = 0; share < 8; share++) {
                Checks.due("share " + share, c.share(share, 0), 100 + share);
            }
        });
        Sentences.holds(17, "- `what`: 0: its value; 1: its owner; 2: 1 if it was forged since it was dealt (also if "
            + "it has the same value), otherwise 0", () -> {
            CapsuleKeepers c = Checks.sealed(8, 0, 1, 0);
            Checks.due("the value 0", c.share(7, 0), 0);
            c.forge(7, 0);
            Checks.due("forged to the same", c.share(7, 2), 1);
            c.heir(7, 0);
            c.die(7);
            Checks.due("another owner", c.share(7, 1), 0);
            Checks.due("forged by inheritance, too", c.share(7, 2), 1);
            Checks.due("the own one of that owner is not", c.share(0, 2), 0);
            c.forge(6, 0);
            c.renew();
            Checks.due("dealt anew", c.share(6, 2), 0);
        });
        Sentences.holds(17, "Returns the property; NONE if there is no such share.", () -> {
            CapsuleKeepers c = Checks.withKeepers(7);
            for (int what = 0; what <= 2; what++) {
                Checks.due("no capsule", c.share(0, what), NONE);
            }
            c.seal(3, 1, 0);
            c.forge(0, 9);
            c.die(0);
            c.keeper();
            for (int what = 0; what <= 2; what++) {
                Checks.due("the owner is dead", c.share(0, what), NONE);
                Checks.due("the keeper came late", c.share(7, what), NONE);
                Checks.due("the others are there", c.share(6, what) == NONE ? 1 : 0, 0);
            }
        });
        Sentences.holds(17, "Throws `IllegalArgumentException` if an argument is out of range", () -> {
            CapsuleKeepers none = new CapsuleKeepers();
            CapsuleKeepers c = Checks.sealed(8, 3, 1, 0);
            for (CapsuleKeepers one : new CapsuleKeepers[] {none, c}) {
                for (int share : new int[] {-1, 8, 32, LEAST, MOST}) {
                    Checks.dueThrow("share " + share, one, Checks.ARGUMENT, () -> one.share(share, 0));
                }
                for (int what : new int[] {-1, 3, LEAST, MOST}) {
                    Checks.dueThrow("what " + what, one, Checks.ARGUMENT, () -> one.share(0, what));
                    Checks.dueThrow("what " + what + " of 7", one, Checks.ARGUMENT, () -> one.share(7, what));
                }
                Checks.dueThrow("both", one, Checks.ARGUMENT, () -> one.share(8, 3));
            }
        });
    }

    private static void dueCounts(String when, CapsuleKeepers c, int... want) {
        for (int what = 0; what <= 11; what++) {
            Checks.due(when + ", count(" + what + ")", c.count(what), want[what]);
        }
    }

    private static void count() {
        Sentences.holds(18, "Returns a number.", () ->
            dueCounts("new", new CapsuleKeepers(), 0, 0, 0, 0, NONE, NONE, 0, 0, 0, 0, 1, 0));
        Sentences.holds(18, "- `what`: 0: keepers; 1: those who live; 2: the day; 3: 0 without a capsule, 1 if it is "
            + "shut, 2 if it is open; 4: the quorum, 5: the date, NONE for both without a capsule; 6: shares that "
            + "there are; 7: pairs that quarrel, dead ones, too; 8: dealings so far; 9: tries to open that were "
            + "refused so far; 10: x; 11: saved states", () -> {
            CapsuleKeepers c = Checks.withKeepers(8);
            dueCounts("eight keepers", c, 8, 8, 0, 0, NONE, NONE, 0, 0, 0, 0, 1, 6);
            for (int one = 0; one < 8; one++) {
                for (int other = one + 1; other < 8; other++) {
                    c.quarrel(one, other);
                }
            }
            dueCounts("all quarrel", c, 8, 8, 0, 0, NONE, NONE, 0, 28, 0, 0, 1, 6);
            c.open(255);
            c.seal(0, 1, 0);
            dueCounts("sealed", c, 8, 8, 0, 1, 1, 0, 8, 28, 1, 1, 1, 6);
            c.open(255);
            c.open(128);
            c.open(128);
            dueCounts("open", c, 8, 8, 0, 2, 1, 0, 8, 28, 1, 3, 1, 6);
            for (int keeper = 0; keeper < 8; keeper++) {
                c.die(keeper);
            }
            dueCounts("all are dead", c, 8, 0, 0, 2, 1, 0, 0, 28, 1, 3, 1, 6);
            for (int left = 5; left >= 0; left--) {
                c.undo();
                Checks.due("saved states left", c.count(11), left);
            }
            dueCounts("six undone", c, 8, 6, 0, 2, 1, 0, 6, 28, 1, 3, 1, 0);
        });
        Sentences.holds(18, "Returns the number.", () -> {
            CapsuleKeepers c = Checks.sealed(8, 250, 8, 9999);
            Checks.due("the greatest quorum", c.count(4), 8);
            Checks.due("the greatest date", c.count(5), 9999);
            c.renew();
            c.renew();
            Checks.due("dealings", c.count(8), 3);
            Checks.due("x", c.count(10), Arithmetic.xAfter(21));
        });
        Sentences.holds(18, "Throws `IllegalArgumentException` if what is not 0 to 11", () -> {
            CapsuleKeepers c = new CapsuleKeepers();
            for (int what : new int[] {-1, 12, LEAST, MOST}) {
                Checks.dueThrow("count(" + what + ")", c, Checks.ARGUMENT, () -> c.count(what));
            }
        });
    }

    private static void why() {
        Sentences.holds(19, "Tells why a group would be refused, if it tried to open the capsule now.", () -> {
            for (int group = 0; group < 256; group++) {
                CapsuleKeepers c = Checks.sealed(8, 5, 4, 1);
                c.quarrel(0, 7);
                c.die(3);
                for (int day = 0; day <= 2; day++) {
                    int told = c.why(group);
                    Checks.due("why(" + group + ") once more", c.why(group), told);
                    Checks.due("open(" + group + ") at the day " + day, c.open(group), told);
                    Checks.due("why(" + group + ") then", c.why(group), told == 0 ? 1 : told);
                    c.pass(1);
                }
            }
        });
        Sentences.holds(19, "- `group`: a mask, 0 to 255", () -> {
            CapsuleKeepers c = Checks.sealed(8, 5, 8, 0);
            Checks.due("why(0)", c.why(0), 2);
            for (int group = 1; group < 255; group++) {
                Checks.due("why(" + group + ")", c.why(group), 5);
            }
            Checks.due("why(255)", c.why(255), 0);
        });
        Sentences.holds(19, "Returns 0 if it would not; otherwise the reason.", () -> {
            CapsuleKeepers c = Checks.withKeepers(3);
            Checks.due("no capsule", c.why(7), 1);
            c.seal(5, 3, 1);
            Checks.due("ahead of the date", c.why(7), 4);
            c.pass(1);
            Checks.due("as many as the quorum", c.why(7), 0);
            Checks.due("one fewer", c.why(6), 5);
            c.forge(2, (c.share(2, 0) + 1) % 251);
            Checks.due("forged", c.why(7), 6);
            c.quarrel(0, 2);
            Checks.due("quarrel", c.why(7), 3);
            Checks.due("who don't quarrel", c.why(3), 5);
            c.die(1);
            Checks.due("dead", c.why(7), 2);
            Checks.due("nothing is counted", c.count(9) + c.keeperOf(0, 4), 0);
        });
        Sentences.holds(19, "Throws `IllegalArgumentException` if group is out of range, or has a keeper who is not "
            + "there",
            () -> EdgesOfCapsule.dueGroupRange("why", (c, group) -> c.why(group)));
    }

    private static void dueSharesRange(String call, EdgesOfCapsule.OfGroup body) {
        for (CapsuleKeepers c : new CapsuleKeepers[] {new CapsuleKeepers(), Checks.sealed(8, 5, 2, 0)}) {
            for (int shares : new int[] {-1, 256, 257, 511, 512, LEAST, MOST}) {
                Checks.dueThrow(call + "(" + shares + ")", c, Checks.ARGUMENT, () -> body.ask(c, shares));
            }
        }
    }

    private static void told() {
        Sentences.holds(20, "Tells the key that some shares tell.", () -> {
            for (int quorum = 1; quorum <= 8; quorum++) {
                CapsuleKeepers c = Checks.sealed(8, 250, quorum, 9999);
                Checks.due("the lowest", c.told((1 << quorum) - 1), 250);
                Checks.due("the highest", c.told(256 - (1 << 8 - quorum)), 250);
            }
        });
        Sentences.holds(20, "- `shares`: a mask, 0 to 255", () -> {
            CapsuleKeepers c = Checks.sealed(8, 0, 1, 0);
            for (int share = 0; share < 8; share++) {
                c.forge(share, 200 + share);
            }
            Checks.due("told(0)", c.told(0), NONE);
            for (int shares = 1; shares < 256; shares++) {
                Checks.due("told(" + shares + ")", c.told(shares), 200 + Integer.numberOfTrailingZeros(shares));
            }
        });
        Sentences.holds(20, "Returns the value at 0 of the curve of the least power through these shares; NONE if "
            + "there is no capsule, one of them is not there, or they are fewer than the quorum; if they are more, "
            + "those with the lowest numbers, as many as the quorum, tell it.", () -> {
            CapsuleKeepers c = Checks.withKeepers(7);
            Checks.due("no capsule", c.told(127), NONE);
            c.seal(5, 2, 0);
            Checks.due("none", c.told(0), NONE);
            for (int share = 0; share < 7; share++) {
                Checks.due("one fewer", c.told(1 << share), NONE);
                Checks.due("one that is not there", c.told(128 | 1 << share), NONE);
            }
            Checks.due("all and one that is not there", c.told(255), NONE);
            for (int one = 0; one < 7; one++) {
                c.forge(one, 37 * one % 251);
            }
            for (int one = 0; one < 7; one++) {
                for (int other = one + 1; other < 7; other++) {
                    int want = Arithmetic.lineAtZero(one, 37 * one % 251, other, 37 * other % 251);
                    Checks.due("as many as the quorum", c.told(1 << one | 1 << other), want);
                    Checks.due("all higher ones, too", c.told((1 << one | 127 << other) & 127), want);
                }
            }
            c.forge(2, 0);
            Checks.due("the third is not asked", c.told(127), Arithmetic.lineAtZero(0, 0, 1, 37));
            c.die(0);
            Checks.due("one is gone", c.told(3), NONE);
            Checks.due("the others tell", c.told(126), Arithmetic.lineAtZero(1, 37, 2, 0));
            c.undo();
            c.seal(5, 2, 0);
            c.open(3);
            Checks.due("an open one", c.told(3), 5);
        });
        Sentences.holds(20, "Throws `IllegalArgumentException` if shares is out of range", () ->
            dueSharesRange("told", (c, shares) -> c.told(shares)));
    }

    private static void possible() {
        Sentences.holds(21, "Tells how many keys some shares leave possible.", () -> {
            for (int quorum = 1; quorum <= 8; quorum++) {
                CapsuleKeepers c = Checks.sealed(8, 5, quorum, 0);
                Checks.due("one fewer than the quorum", c.possible((1 << quorum - 1) - 1), 251);
                Checks.due("as many", c.possible((1 << quorum) - 1), 1);
                Checks.due("all", c.possible(255), 1);
            }
        });
        Sentences.holds(21, "- `shares`: a mask, 0 to 255", () -> {
            CapsuleKeepers c = Checks.sealed(8, 5, 8, 0);
            for (int shares = 0; shares < 255; shares++) {
                Checks.due("possible(" + shares + ")", c.possible(shares), 251);
            }
            Checks.due("possible(255)", c.possible(255), 1);
        });
        Sentences.holds(21, "Returns for how many keys there is a curve with the key at 0, of a power less than the "
            + "quorum, through all of these shares: 251, 1 or 0; NONE if there is no capsule, or one of them is not "
            + "there.",
            EdgesOfLooks::possibleKeys);
        Sentences.holds(21, "Throws `IllegalArgumentException` if shares is out of range", () ->
            dueSharesRange("possible", (c, shares) -> c.possible(shares)));
    }

    private static void possibleKeys() {
        CapsuleKeepers none = Checks.withKeepers(8);
        Checks.due("no capsule", none.possible(0), NONE);
        Checks.due("no capsule", none.possible(255), NONE);
        for (int quorum = 1; quorum <= 8; quorum++) {
            for (int forged = 0; forged < 8; forged++) {
                CapsuleKeepers c = Checks.sealed(8, 5, quorum, 0);
                c.forge(forged, (c.share(forged, 0) + 1) % 251);
                for (int shares = 0; shares < 256; shares++) {
                    int size = Integer.bitCount(shares);
                    boolean fits = (shares >> forged & 1) == 0 || size == quorum;
                    Checks.due("quorum " + quorum + ", " + forged + " forged: possible(" + shares + ")",
                        c.possible(shares), size < quorum ? 251 : fits ? 1 : 0);
                }
            }
        }
        CapsuleKeepers c = Checks.sealed(7, 5, 2, 0);
        Checks.due("one that is not there", c.possible(128), NONE);
        Checks.due("all and one that is not there", c.possible(255), NONE);
        c.die(6);
        Checks.due("one that is gone", c.possible(64), NONE);
        Checks.due("the others", c.possible(63), 1);
        c.open(3);
        Checks.due("of an open one", c.possible(1), 251);
    }
}
