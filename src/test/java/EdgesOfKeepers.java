/** The boundary cases that promises 1 to 5 name, each sentence by a test of its own. */
final class EdgesOfKeepers {
    private static final int NONE = CapsuleKeepers.NONE;
    private static final int[] NOBODY_OF_THREE = {-1, 3, 8, 32, 33, Integer.MIN_VALUE, Integer.MAX_VALUE};

    private EdgesOfKeepers() {
    }

    static void run() {
        newObject();
        keeper();
        die();
        heir();
        quarrel();
    }

    private static void newObject() {
        Sentences.holds(1, "Creates a place without keepers and capsule, at the day 0, with an empty buffer.", () -> {
            CapsuleKeepers c = new CapsuleKeepers();
            int[] want = {0, 0, 0, 0, NONE, NONE, 0, 0, 0, 0, 1, 0};
            for (int what = 0; what <= 11; what++) {
                Checks.due("count(" + what + ")", c.count(what), want[what]);
            }
            for (int share = 0; share < 8; share++) {
                for (int what = 0; what <= 2; what++) {
                    Checks.due("share(" + share + ", " + what + ")", c.share(share, what), NONE);
                }
            }
            Checks.dueThrow("keeperOf(0, 0)", c, Checks.INDEX, () -> c.keeperOf(0, 0));
            Checks.dueThrow("undo()", c, Checks.STATE, c::undo);
            Checks.dueThrow("open(1)", c, Checks.ARGUMENT, () -> c.open(1));
            Checks.due("firstError()", c.firstError(), 0);
            Checks.due("clearBuffer()", c.clearBuffer(), 0);
            Checks.withKeepers(8).seal(9, 2, 4);
            Checks.due("another object's calls", new CapsuleKeepers().digest(), c.digest());
        });
    }

    private static void keeper() {
        Sentences.holds(2, "Adds a keeper who lives (without a share, until shares are dealt).", () -> {
            CapsuleKeepers c = Checks.sealed(1, 5, 1, 0);
            c.keeper();
            Checks.due("lives", c.keeperOf(1, 0), 1);
            Checks.due("owns none", c.keeperOf(1, 2), 0);
            Checks.due("no share 1", c.share(1, 0), NONE);
            Checks.due("alone too few shares", c.why(2), 5);
            c.renew();
            Checks.due("owns one", c.keeperOf(1, 2), 2);
            Checks.due("alone enough", c.why(2), 0);
        });
        Sentences.holds(2, "Undoable.", () -> {
            CapsuleKeepers c = new CapsuleKeepers();
            Checks.dueUndoable("the first", c, c::keeper);
            Checks.dueThrow("nobody is there then", c, Checks.INDEX, () -> c.keeperOf(0, 0));
            CapsuleKeepers seven = Checks.withKeepers(7);
            long before = seven.digest();
            Checks.due("the eighth", seven.keeper(), 7);
            Checks.due("six are saved", seven.count(11), 6);
            seven.undo();
            Checks.due("seven again", seven.count(0), 7);
            Checks.due("the eighth anew", seven.keeper(), 7);
            seven.undo();
            Checks.due("but for the saved states as before", seven.digest() == before ? 1 : 0, 0);
        });
        Sentences.holds(2, "Returns the number.", () -> {
            CapsuleKeepers c = new CapsuleKeepers();
            Checks.due("the first", c.keeper(), 0);
            c.die(0);
            Checks.due("the second, the first is dead", c.keeper(), 1);
            for (int i = 2; i < 7; i++) {
                c.keeper();
            }
            Checks.due("the last", c.keeper(), 7);
        });
        Sentences.holds(2, "Throws `IllegalStateException` if there are 8", () -> {
            CapsuleKeepers c = Checks.withKeepers(7);
            c.keeper();
            Checks.dueThrow("all eight live", c, Checks.STATE, c::keeper);
            for (int i = 0; i < 8; i++) {
                c.die(i);
                Checks.dueThrow("dead ones count, too", c, Checks.STATE, c::keeper);
            }
            CapsuleKeepers back = Checks.withKeepers(8);
            back.undo();
            Checks.due("one is undone", back.keeper(), 7);
        });
    }

    private static void die() {
        Sentences.holds(3, "A keeper dies.", () -> {
            for (int keeper : new int[] {0, 7}) {
                CapsuleKeepers c = Checks.sealed(8, 5, 1, 0);
                c.die(keeper);
                Checks.due("is dead", c.keeperOf(keeper, 0), 0);
                Checks.due("seven live", c.count(1), 7);
                Checks.due("eight are counted", c.count(0), 8);
                Checks.due("the group with this one", c.why(255), 2);
                Checks.due("the group without", c.why(255 - (1 << keeper)), 0);
            }
            CapsuleKeepers one = Checks.withKeepers(1);
            one.die(0);
            Checks.due("nobody lives", one.count(1), 0);
        });
        Sentences.holds(3, "Undoable.", () -> {
            CapsuleKeepers c = Checks.sealed(2, 5, 2, 0);
            Checks.dueUndoable("without an heir", c, () -> c.die(1));
            Checks.due("the share is back", c.share(1, 1), 1);
            c.heir(1, 0);
            Checks.dueUndoable("with an heir", c, () -> c.die(1));
            Checks.due("its owner, too", c.share(1, 1), 1);
        });
        Sentences.holds(3, "- `keeper`: the number", () -> {
            CapsuleKeepers c = Checks.withKeepers(8);
            c.die(7);
            c.die(0);
            for (int keeper = 0; keeper < 8; keeper++) {
                Checks.due("lives " + keeper, c.keeperOf(keeper, 0), keeper == 0 || keeper == 7 ? 0 : 1);
            }
        });
        Sentences.holds(3, "Returns how many shares go to the heir (0 if they are gone).", () -> {
            CapsuleKeepers c = Checks.sealed(8, 5, 2, 0);
            Checks.due("no heir", c.die(7), 0);
            c.heir(6, 0);
            Checks.due("one", c.die(6), 1);
            for (int keeper = 0; keeper < 5; keeper++) {
                c.heir(keeper, keeper + 1);
                Checks.due("one more each", c.die(keeper), keeper + 2);
            }
            Checks.due("all that are left, gone", c.die(5), 0);
            CapsuleKeepers none = Checks.withKeepers(2);
            none.heir(0, 1);
            Checks.due("an heir, but no share", none.die(0), 0);
            CapsuleKeepers dead = Checks.sealed(2, 5, 2, 0);
            dead.heir(0, 1);
            dead.die(1);
            Checks.due("a dead heir", dead.die(0), 0);
            CapsuleKeepers cleared = Checks.sealed(2, 5, 2, 0);
            cleared.heir(0, 1);
            cleared.heir(0, NONE);
            Checks.due("an heir no more", cleared.die(0), 0);
        });
        Sentences.holds(3, "Throws `IndexOutOfBoundsException` if there is no such keeper", () -> {
            CapsuleKeepers c = Checks.withKeepers(3);
            for (int keeper : NOBODY_OF_THREE) {
                Checks.dueThrow("die(" + keeper + ")", c, Checks.INDEX, () -> c.die(keeper));
            }
            CapsuleKeepers none = new CapsuleKeepers();
            Checks.dueThrow("die(0) of none", none, Checks.INDEX, () -> none.die(0));
            CapsuleKeepers eight = Checks.withKeepers(8);
            Checks.dueThrow("die(8) of eight", eight, Checks.INDEX, () -> eight.die(8));
        });
        Sentences.holds(3, "Throws `IllegalStateException` if this one is dead", () -> {
            CapsuleKeepers c = Checks.sealed(8, 5, 2, 0);
            c.heir(0, 7);
            c.die(0);
            Checks.dueThrow("die(0) again", c, Checks.STATE, () -> c.die(0));
            c.die(7);
            Checks.dueThrow("die(7) again", c, Checks.STATE, () -> c.die(7));
            c.undo();
            Checks.due("alive by undo()", c.die(7), 0);
        });
    }

    private static void heir() {
        Sentences.holds(4, "Names an heir, in place of the one that was.", () -> {
            CapsuleKeepers c = Checks.sealed(8, 5, 2, 0);
            c.heir(0, 1);
            c.heir(0, 7);
            Checks.due("the heir", c.keeperOf(0, 1), 7);
            c.die(0);
            Checks.due("who was named first has one", c.keeperOf(1, 2), 2);
            Checks.due("who was named last has two", c.keeperOf(7, 2), 129);
        });
        Sentences.holds(4, "Undoable.", () -> {
            CapsuleKeepers c = Checks.withKeepers(2);
            Checks.dueUndoable("a first heir", c, () -> c.heir(0, 1));
            Checks.due("none", c.keeperOf(0, 1), NONE);
            Checks.dueUndoable("NONE in place of NONE", c, () -> c.heir(0, NONE));
            c.heir(0, 1);
            Checks.dueUndoable("the same", c, () -> c.heir(0, 1));
            Checks.dueUndoable("NONE", c, () -> c.heir(0, NONE));
            Checks.due("the heir is back", c.keeperOf(0, 1), 1);
        });
        Sentences.holds(4, "- `keeper`: the number", () -> {
            CapsuleKeepers c = Checks.withKeepers(8);
            c.heir(7, 6);
            c.heir(0, 1);
            for (int keeper = 0; keeper < 8; keeper++) {
                Checks.due("heir of " + keeper, c.keeperOf(keeper, 1), keeper == 0 ? 1 : keeper == 7 ? 6 : NONE);
            }
        });
        Sentences.holds(4, "- `heir`: the number of another keeper, or NONE", () -> {
            CapsuleKeepers c = Checks.withKeepers(8);
            c.heir(3, 0);
            Checks.due("the lowest", c.keeperOf(3, 1), 0);
            c.heir(3, 7);
            Checks.due("the highest", c.keeperOf(3, 1), 7);
            c.heir(3, NONE);
            Checks.due("NONE", c.keeperOf(3, 1), NONE);
        });
        Sentences.holds(4, "Returns the number of the heir before, NONE without one.", () -> {
            CapsuleKeepers c = Checks.withKeepers(8);
            Checks.due("none before", c.heir(7, 0), NONE);
            Checks.due("0 before", c.heir(7, 0), 0);
            Checks.due("0 before, once more", c.heir(7, NONE), 0);
            Checks.due("NONE before", c.heir(7, NONE), NONE);
            c.heir(7, 6);
            c.die(6);
            Checks.due("a dead one before", c.heir(7, 5), 6);
        });
        Sentences.holds(4, "Throws `IndexOutOfBoundsException` if there is no such keeper, or heir is neither NONE "
            + "nor a keeper", () -> {
            CapsuleKeepers c = Checks.withKeepers(3);
            for (int nobody : NOBODY_OF_THREE) {
                Checks.dueThrow("heir(" + nobody + ", 0)", c, Checks.INDEX, () -> c.heir(nobody, 0));
                Checks.dueThrow("heir(" + nobody + ", NONE)", c, Checks.INDEX, () -> c.heir(nobody, NONE));
                if (nobody != NONE) {
                    Checks.dueThrow("heir(0, " + nobody + ")", c, Checks.INDEX, () -> c.heir(0, nobody));
                }
            }
            Checks.dueThrow("heir(0, -2)", c, Checks.INDEX, () -> c.heir(0, -2));
            c.die(2);
            Checks.dueThrow("heir(2, 3), dead and nobody", c, Checks.INDEX, () -> c.heir(2, 3));
            Checks.dueThrow("heir(3, 2), nobody and dead", c, Checks.INDEX, () -> c.heir(3, 2));
            CapsuleKeepers eight = Checks.withKeepers(8);
            Checks.dueThrow("heir(0, 8) of eight", eight, Checks.INDEX, () -> eight.heir(0, 8));
            Checks.dueThrow("heir(8, 0) of eight", eight, Checks.INDEX, () -> eight.heir(8, 0));
        });
        Sentences.holds(4, "Throws `IllegalStateException` if both are the same, or one of them is dead", () -> {
            CapsuleKeepers c = Checks.withKeepers(8);
            Checks.dueThrow("heir(0, 0)", c, Checks.STATE, () -> c.heir(0, 0));
            Checks.dueThrow("heir(7, 7)", c, Checks.STATE, () -> c.heir(7, 7));
            c.heir(1, 7);
            c.die(7);
            Checks.dueThrow("heir(7, 0), dead", c, Checks.STATE, () -> c.heir(7, 0));
            Checks.dueThrow("heir(0, 7), dead", c, Checks.STATE, () -> c.heir(0, 7));
            Checks.dueThrow("heir(1, 7), dead and the same as before", c, Checks.STATE, () -> c.heir(1, 7));
            Checks.dueThrow("heir(7, 7), dead and the same", c, Checks.STATE, () -> c.heir(7, 7));
            Checks.dueThrow("heir(7, NONE), dead", c, Checks.STATE, () -> c.heir(7, NONE));
            c.die(6);
            Checks.dueThrow("heir(6, 7), both dead", c, Checks.STATE, () -> c.heir(6, 7));
        });
    }

    private static void quarrel() {
        Sentences.holds(5, "Lets two keepers quarrel, or make peace, if they do.", () -> {
            CapsuleKeepers c = Checks.sealed(8, 5, 2, 0);
            c.quarrel(0, 7);
            Checks.due("0 with 7", c.keeperOf(0, 3), 128);
            Checks.due("7 with 0", c.keeperOf(7, 3), 1);
            Checks.due("they don't come together", c.why(129), 3);
            c.quarrel(0, 7);
            Checks.due("peace of 0", c.keeperOf(0, 3), 0);
            Checks.due("peace of 7", c.keeperOf(7, 3), 0);
            Checks.due("they come together", c.why(129), 0);
            c.quarrel(0, 7);
            c.quarrel(7, 0);
            Checks.due("peace by the other", c.count(7), 0);
        });
        Sentences.holds(5, "Undoable.", () -> {
            CapsuleKeepers c = Checks.withKeepers(2);
            Checks.dueUndoable("a quarrel", c, () -> c.quarrel(1, 0));
            c.quarrel(0, 1);
            Checks.dueUndoable("a peace", c, () -> c.quarrel(1, 0));
            Checks.due("they quarrel on", c.count(7), 1);
        });
        Sentences.holds(5, "- `one`: the number of a keeper", () -> {
            CapsuleKeepers c = Checks.withKeepers(8);
            c.quarrel(0, 4);
            c.quarrel(7, 3);
            Checks.due("0", c.keeperOf(0, 3), 16);
            Checks.due("7", c.keeperOf(7, 3), 8);
        });
        Sentences.holds(5, "- `other`: the number of another one", () -> {
            CapsuleKeepers c = Checks.withKeepers(8);
            c.quarrel(4, 0);
            c.quarrel(4, 7);
            Checks.due("0", c.keeperOf(0, 3), 16);
            Checks.due("7", c.keeperOf(7, 3), 16);
            Checks.due("4", c.keeperOf(4, 3), 129);
        });
        Sentences.holds(5, "Returns how many keepers the former quarrels with then, dead ones, too.", () -> {
            CapsuleKeepers c = Checks.withKeepers(8);
            for (int other = 1; other < 8; other++) {
                Checks.due("0 with one more", c.quarrel(0, other), other);
            }
            Checks.due("the former is the one asked", c.quarrel(1, 2), 2);
            Checks.due("a pair of others", c.quarrel(3, 2), 2);
            c.die(7);
            Checks.due("the dead 7 counts", c.quarrel(0, 1), 6);
            Checks.due("with the dead 7 peace is made", c.quarrel(0, 7), 5);
            c.die(0);
            Checks.due("a dead one counts the own", c.quarrel(0, 7), 6);
            Checks.due("two dead ones", c.quarrel(7, 0), 0);
        });
        Sentences.holds(5, "Throws `IndexOutOfBoundsException` if there is no such keeper", () -> {
            CapsuleKeepers c = Checks.withKeepers(3);
            for (int nobody : NOBODY_OF_THREE) {
                Checks.dueThrow("quarrel(0, " + nobody + ")", c, Checks.INDEX, () -> c.quarrel(0, nobody));
                Checks.dueThrow("quarrel(" + nobody + ", 0)", c, Checks.INDEX, () -> c.quarrel(nobody, 0));
                Checks.dueThrow("both " + nobody, c, Checks.INDEX, () -> c.quarrel(nobody, nobody));
            }
            CapsuleKeepers eight = Checks.withKeepers(8);
            Checks.dueThrow("quarrel(0, 8) of eight", eight, Checks.INDEX, () -> eight.quarrel(0, 8));
            Checks.dueThrow("quarrel(8, 0) of eight", eight, Checks.INDEX, () -> eight.quarrel(8, 0));
        });
        Sentences.holds(5, "Throws `IllegalStateException` if both are the same", () -> {
            CapsuleKeepers c = Checks.withKeepers(8);
            Checks.dueThrow("quarrel(0, 0)", c, Checks.STATE, () -> c.quarrel(0, 0));
            Checks.dueThrow("quarrel(7, 7)", c, Checks.STATE, () -> c.quarrel(7, 7));
            c.die(7);
            Checks.dueThrow("quarrel(7, 7), dead", c, Checks.STATE, () -> c.quarrel(7, 7));
        });
    }
}
