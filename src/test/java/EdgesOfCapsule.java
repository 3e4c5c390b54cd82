/** The boundary cases that promises 6 to 10 name, each sentence by a test of its own. */
final class EdgesOfCapsule {
    private static final int NONE = CapsuleKeepers.NONE;
    private static final int LEAST = Integer.MIN_VALUE;
    private static final int MOST = Integer.MAX_VALUE;

    private EdgesOfCapsule() {
    }

    static void run() {
        seal();
        sealThrows();
        renew();
        forge();
        pass();
        open();
    }

    private static void seal() {
        Sentences.holds(6, "Seals a capsule, in place of the one that was, and deals the shares of its key.", () -> {
            CapsuleKeepers c = Checks.sealed(3, 250, 3, 9999);
            c.forge(0, (c.share(0, 0) + 1) % 251);
            c.seal(0, 1, 0);
            Checks.due("the quorum", c.count(4), 1);
            Checks.due("the date", c.count(5), 0);
            Checks.due("the share", c.share(0, 0), 0);
            Checks.due("not forged", c.share(0, 2), 0);
            Checks.due("dealings", c.count(8), 2);
            Checks.due("it opens", c.open(4), 0);
            c.seal(9, 2, 0);
            Checks.due("shut in place of an open one", c.count(3), 1);
            Checks.due("tries stay counted", c.keeperOf(2, 4), 1);
        });
        Sentences.holds(6, "Undoable.", () -> {
            CapsuleKeepers c = Checks.withKeepers(2);
            Checks.dueUndoable("a first capsule", c, () -> c.seal(250, 2, 9999));
            Checks.due("none is there", c.count(3), 0);
            Checks.due("nor a share", c.share(0, 0), NONE);
            c.seal(3, 2, 0);
            Checks.dueUndoable("another one", c, () -> c.seal(250, 1, 1));
            Checks.due("the key before", c.told(3), 3);
            Checks.due("it fits", c.why(3), 0);
            Checks.due("x", c.count(10), 11384);
            c.open(3);
            c.seal(4, 1, 0);
            c.undo();
            Checks.due("open again", c.count(3), 2);
        });
        Sentences.holds(6, "- `key`: 0 to 250", () -> {
            Checks.due("0", Checks.sealed(1, 0, 1, 0).told(1), 0);
            Checks.due("250", Checks.sealed(1, 250, 1, 0).told(1), 250);
            Checks.due("0 by 8", Checks.sealed(8, 0, 8, 0).why(255), 0);
            Checks.due("250 by 8", Checks.sealed(8, 250, 8, 0).why(255), 0);
        });
        Sentences.holds(6, "- `quorum`: 1 to 8", () -> {
            CapsuleKeepers one = Checks.sealed(8, 7, 1, 0);
            Checks.due("1: nobody", one.why(0), 2);
            Checks.due("1: one", one.why(128), 0);
            CapsuleKeepers eight = Checks.sealed(8, 7, 8, 0);
            Checks.due("8: seven", eight.why(254), 5);
            Checks.due("8: eight", eight.why(255), 0);
        });
        Sentences.holds(6, "- `date`: 0 to 9999, a day", () -> {
            Checks.due("0", Checks.sealed(1, 7, 1, 0).why(1), 0);
            CapsuleKeepers c = Checks.sealed(1, 7, 1, 9999);
            for (int i = 0; i < 10; i++) {
                c.pass(999);
            }
            c.pass(8);
            Checks.due("the day", c.count(2), 9998);
            Checks.due("9998", c.why(1), 4);
            c.pass(1);
            Checks.due("9999", c.why(1), 0);
            c.pass(1);
            Checks.due("10000", c.why(1), 0);
            c.seal(7, 1, 9999);
            Checks.due("a date that has been", c.why(1), 0);
        });
        Sentences.holds(6, "Returns how many shares are dealt.", () -> {
            Checks.due("one", Checks.withKeepers(1).seal(7, 1, 0), 1);
            CapsuleKeepers c = Checks.withKeepers(8);
            for (int living = 8; living >= 1; living--) {
                Checks.due("as many as live", c.seal(7, 1, 0), living);
                Checks.due("as many as there are", c.count(6), living);
                c.die(living - 1);
            }
        });
    }

    private static void sealThrows() {
        Sentences.holds(6, "Throws `IllegalArgumentException` if an argument is out of range", () -> {
            CapsuleKeepers c = Checks.withKeepers(8);
            for (int key : new int[] {-1, 251, 256, LEAST, MOST}) {
                Checks.dueThrow("key " + key, c, Checks.ARGUMENT, () -> c.seal(key, 1, 0));
            }
            for (int quorum : new int[] {-1, 0, 9, LEAST, MOST}) {
                Checks.dueThrow("quorum " + quorum, c, Checks.ARGUMENT, () -> c.seal(0, quorum, 0));
            }
            for (int date : new int[] {-1, 10000, LEAST, MOST}) {
                Checks.dueThrow("date " + date, c, Checks.ARGUMENT, () -> c.seal(0, 1, date));
            }
            CapsuleKeepers none = new CapsuleKeepers();
            Checks.dueThrow("a key, and nobody lives", none, Checks.ARGUMENT, () -> none.seal(251, 1, 0));
            Checks.dueThrow("a quorum, and nobody lives", none, Checks.ARGUMENT, () -> none.seal(0, 0, 0));
            Checks.dueThrow("a date, and nobody lives", none, Checks.ARGUMENT, () -> none.seal(0, 1, 10000));
        });
        Sentences.holds(6, "Throws `IllegalStateException` if fewer keepers live than the quorum", () -> {
            CapsuleKeepers none = new CapsuleKeepers();
            Checks.dueThrow("nobody is there", none, Checks.STATE, () -> none.seal(0, 1, 0));
            CapsuleKeepers c = Checks.withKeepers(7);
            Checks.dueThrow("eight of seven", c, Checks.STATE, () -> c.seal(0, 8, 0));
            Checks.due("seven of seven", c.seal(0, 7, 0), 7);
            c.die(3);
            Checks.dueThrow("seven of six", c, Checks.STATE, () -> c.seal(0, 7, 0));
            Checks.due("six of six", c.seal(0, 6, 0), 6);
        });
    }

    private static void renew() {
        Sentences.holds(7, "Renews the shares: they are dealt anew, for the same key, quorum and date.", () -> {
            for (int quorum = 1; quorum <= 8; quorum++) {
                CapsuleKeepers c = Checks.sealed(8, 250, quorum, 9999);
                c.forge(0, 7);
                c.forge(7, 7);
                c.renew();
                for (int share = 0; share < 8; share++) {
                    Checks.due("share " + share, c.share(share, 0),
                        Arithmetic.dealt(share, 250, quorum, quorum - 1));
                    Checks.due("not forged " + share, c.share(share, 2), 0);
                }
                Checks.due("the key", c.told(255), 250);
                Checks.due("the quorum", c.count(4), quorum);
                Checks.due("the date", c.count(5), 9999);
                Checks.due("shut", c.count(3), 1);
                Checks.due("dealings", c.count(8), 2);
            }
        });
        Sentences.holds(7, "Undoable.", () -> {
            CapsuleKeepers c = Checks.sealed(3, 250, 2, 0);
            c.forge(0, 7);
            Checks.dueUndoable("renew()", c, c::renew);
            Checks.due("forged again", c.share(0, 2), 1);
            c.undo();
            c.seal(6, 1, 0);
            Checks.dueUndoable("renew() that changes no share", c, c::renew);
        });
        Sentences.holds(7, "Returns how many shares are dealt.", () -> {
            CapsuleKeepers c = Checks.sealed(7, 5, 1, 0);
            c.keeper();
            Checks.due("a new one gets one", c.renew(), 8);
            for (int living = 7; living >= 1; living--) {
                c.die(living);
                Checks.due("the dead get none", c.renew(), living);
            }
        });
        Sentences.holds(7, "Throws `IllegalStateException` if there is no capsule, or it is open, or fewer keepers "
            + "live than the quorum", () -> {
            CapsuleKeepers none = Checks.withKeepers(8);
            Checks.dueThrow("no capsule", none, Checks.STATE, none::renew);
            CapsuleKeepers c = Checks.sealed(4, 5, 3, 0);
            c.die(0);
            Checks.due("as many as the quorum", c.renew(), 3);
            c.die(1);
            Checks.dueThrow("one fewer", c, Checks.STATE, c::renew);
            c.keeper();
            Checks.due("one more", c.renew(), 3);
            c.open(4 + 8 + 16);
            Checks.dueThrow("open", c, Checks.STATE, c::renew);
            c.undo();
            Checks.due("shut again", c.renew(), 3);
        });
    }

    private static void forge() {
        Sentences.holds(8, "Forges a share.", () -> {
            CapsuleKeepers c = Checks.sealed(2, 5, 2, 0);
            c.forge(1, (c.share(1, 0) + 250) % 251);
            Checks.due("forged", c.share(1, 2), 1);
            Checks.due("the other is not", c.share(0, 2), 0);
            Checks.due("its owner", c.share(1, 1), 1);
            Checks.due("another key is found", c.why(3), 6);
            c.forge(1, (c.share(1, 0) + 1) % 251);
            Checks.due("back to what it was, forged still", c.share(1, 2), 1);
            Checks.due("the key is found", c.why(3), 0);
        });
        Sentences.holds(8, "Undoable.", () -> {
            CapsuleKeepers c = Checks.sealed(2, 5, 2, 0);
            Checks.dueUndoable("another value", c, () -> c.forge(0, (c.share(0, 0) + 1) % 251));
            Checks.due("the key is told", c.told(3), 5);
            Checks.dueUndoable("the same value", c, () -> c.forge(0, c.share(0, 0)));
            Checks.due("not forged", c.share(0, 2), 0);
        });
        Sentences.holds(8, "- `share`: 0 to 7", () -> {
            CapsuleKeepers c = Checks.sealed(8, 5, 2, 0);
            c.forge(0, 1);
            c.forge(7, 2);
            for (int share = 0; share < 8; share++) {
                Checks.due("forged " + share, c.share(share, 2), share == 0 || share == 7 ? 1 : 0);
            }
            c.heir(7, 0);
            c.die(7);
            c.forge(7, 3);
            Checks.due("the number is the share's, not the owner's", c.share(7, 0), 3);
        });
        Sentences.holds(8, "- `value`: 0 to 250, what it is then", () -> {
            CapsuleKeepers c = Checks.sealed(1, 5, 1, 0);
            c.forge(0, 250);
            Checks.due("250", c.share(0, 0), 250);
            Checks.due("told", c.told(1), 250);
            c.forge(0, 0);
            Checks.due("0", c.share(0, 0), 0);
            Checks.due("told", c.told(1), 0);
        });
        Sentences.holds(8, "Returns what it was.", () -> {
            CapsuleKeepers c = Checks.sealed(1, 5, 1, 0);
            Checks.due("as dealt", c.forge(0, 250), 5);
            Checks.due("250", c.forge(0, 250), 250);
            Checks.due("250 again", c.forge(0, 0), 250);
            Checks.due("0", c.forge(0, 1), 0);
        });
        Sentences.holds(8, "Throws `IllegalArgumentException` if share or value is out of range", () -> {
            CapsuleKeepers c = Checks.sealed(8, 5, 2, 0);
            for (int share : new int[] {-1, 8, 32, LEAST, MOST}) {
                Checks.dueThrow("share " + share, c, Checks.ARGUMENT, () -> c.forge(share, 0));
            }
            for (int value : new int[] {-1, 251, LEAST, MOST}) {
                Checks.dueThrow("value " + value, c, Checks.ARGUMENT, () -> c.forge(0, value));
            }
            CapsuleKeepers none = new CapsuleKeepers();
            Checks.dueThrow("a share, and none is there", none, Checks.ARGUMENT, () -> none.forge(8, 0));
            Checks.dueThrow("a value, and none is there", none, Checks.ARGUMENT, () -> none.forge(0, 251));
        });
        Sentences.holds(8, "Throws `IllegalStateException` if there is no such share", () -> {
            CapsuleKeepers c = Checks.withKeepers(3);
            Checks.dueThrow("no capsule", c, Checks.STATE, () -> c.forge(0, 0));
            c.seal(5, 2, 0);
            Checks.dueThrow("no keeper 3", c, Checks.STATE, () -> c.forge(3, 0));
            Checks.dueThrow("no keeper 7", c, Checks.STATE, () -> c.forge(7, 0));
            c.keeper();
            Checks.dueThrow("3 came late", c, Checks.STATE, () -> c.forge(3, 0));
            c.die(0);
            Checks.dueThrow("gone by a death", c, Checks.STATE, () -> c.forge(0, 0));
            c.undo();
            Checks.due("back", c.forge(0, 0) >= 0 ? 1 : 0, 1);
        });
    }

    private static void pass() {
        Sentences.holds(9, "Lets days go by.", () -> {
            CapsuleKeepers c = Checks.sealed(1, 5, 1, 2);
            c.pass(1);
            Checks.due("one day ahead", c.why(1), 4);
            c.pass(1);
            Checks.due("the date", c.why(1), 0);
        });
        Sentences.holds(9, "Undoable.", () -> {
            CapsuleKeepers c = Checks.sealed(1, 5, 1, 2);
            Checks.dueUndoable("pass(999)", c, () -> c.pass(999));
            Checks.due("the day", c.count(2), 0);
        });
        Sentences.holds(9, "- `days`: 1 to 999", () -> {
            CapsuleKeepers c = new CapsuleKeepers();
            c.pass(1);
            Checks.due("1", c.count(2), 1);
            c.pass(999);
            Checks.due("999 more", c.count(2), 1000);
        });
        Sentences.holds(9, "Returns the day then.", () -> {
            CapsuleKeepers c = new CapsuleKeepers();
            Checks.due("999", c.pass(999), 999);
            Checks.due("1000", c.pass(1), 1000);
            Checks.due("the last", last().count(2), 99999);
        });
        Sentences.holds(9, "Throws `IllegalArgumentException` if days is out of range", () -> {
            CapsuleKeepers c = new CapsuleKeepers();
            CapsuleKeepers last = last();
            for (int days : new int[] {0, -1, 1000, LEAST, MOST}) {
                Checks.dueThrow("pass(" + days + ")", c, Checks.ARGUMENT, () -> c.pass(days));
                Checks.dueThrow("pass(" + days + ") at last", last, Checks.ARGUMENT, () -> last.pass(days));
            }
        });
        Sentences.holds(9, "Throws `IllegalStateException` if the day would be above 99999", () -> {
            CapsuleKeepers c = last();
            Checks.dueThrow("pass(1)", c, Checks.STATE, () -> c.pass(1));
            Checks.dueThrow("pass(999)", c, Checks.STATE, () -> c.pass(999));
            c.undo();
            Checks.due("98 before", c.count(2), 99901);
            Checks.dueThrow("pass(99)", c, Checks.STATE, () -> c.pass(99));
            Checks.due("pass(98)", c.pass(98), 99999);
        });
    }

    /** A place at the day 99999; the day before the last call was 99901. */
    private static CapsuleKeepers last() {
        CapsuleKeepers c = new CapsuleKeepers();
        c.pass(1);
        for (int i = 0; i < 100; i++) {
            c.pass(999);
        }
        c.pass(98);
        return c;
    }

    private static void open() {
        Sentences.holds(10, "A group tries to open the capsule; it is open then, if it is not refused.", () -> {
            CapsuleKeepers c = Checks.sealed(3, 5, 2, 0);
            c.open(1);
            Checks.due("refused: shut", c.count(3), 1);
            Checks.due("refused: counted", c.count(9), 1);
            c.open(3);
            Checks.due("open", c.count(3), 2);
            Checks.due("no more refused", c.count(9), 1);
            c.open(3);
            Checks.due("open still", c.count(3), 2);
            Checks.due("refused as it is open", c.count(9), 2);
            CapsuleKeepers none = new CapsuleKeepers();
            none.open(0);
            Checks.due("no capsule: refused", none.count(9), 1);
            Checks.due("no capsule: none comes", none.count(3), 0);
        });
        Sentences.holds(10, "Undoable, also if it is refused.", () -> {
            CapsuleKeepers c = Checks.sealed(2, 5, 2, 0);
            Checks.dueUndoable("refused", c, () -> c.open(1));
            Checks.dueUndoable("not refused", c, () -> c.open(3));
            Checks.due("tries", c.keeperOf(0, 4), 0);
            Checks.due("shut", c.count(3), 1);
            CapsuleKeepers none = new CapsuleKeepers();
            Checks.dueUndoable("nobody and no capsule", none, () -> none.open(0));
            Checks.due("refused so far", none.count(9), 0);
        });
        Sentences.holds(10, "- `group`: a mask, 0 to 255: bit k for the keeper k", () -> {
            CapsuleKeepers c = Checks.sealed(8, 5, 8, 0);
            Checks.due("open(0)", c.open(0), 2);
            for (int keeper = 0; keeper < 8; keeper++) {
                c.open(1 << keeper);
                for (int other = 0; other < 8; other++) {
                    Checks.due("tries of " + other, c.keeperOf(other, 4), other <= keeper ? 1 : 0);
                }
            }
            Checks.due("open(255)", c.open(255), 0);
            Checks.due("refused", c.count(9), 9);
        });
        Sentences.holds(10, "Returns 0 if it is open then; otherwise the reason.", () -> {
            CapsuleKeepers c = Checks.withKeepers(3);
            Checks.due("no capsule", c.open(3), 1);
            c.seal(5, 2, 1);
            Checks.due("empty", c.open(0), 2);
            Checks.due("ahead of the date", c.open(3), 4);
            c.pass(1);
            Checks.due("few shares", c.open(4), 5);
            c.quarrel(0, 1);
            Checks.due("a quarrel", c.open(7), 3);
            c.forge(2, (c.share(2, 0) + 1) % 251);
            Checks.due("forged", c.open(6), 6);
            c.quarrel(0, 1);
            Checks.due("not refused", c.open(7), 0);
            Checks.due("open", c.open(7), 1);
            c.undo();
            c.undo();
            c.die(2);
            Checks.due("dead", c.open(7), 2);
        });
        Sentences.holds(10, "Throws `IllegalArgumentException` if group is out of range, or has a keeper who is not "
            + "there", () -> dueGroupRange("open", (c, group) -> c.open(group)));
    }

    interface OfGroup {
        int ask(CapsuleKeepers c, int group);
    }

    static void dueGroupRange(String call, OfGroup body) {
        for (int keepers = 0; keepers <= 8; keepers++) {
            CapsuleKeepers c = Checks.withKeepers(keepers);
            int all = (1 << keepers) - 1;
            for (int group : new int[] {-1, all + 1, 256, 256 + all, 512, LEAST, MOST}) {
                Checks.dueThrow(call + "(" + group + ") of " + keepers, c, Checks.ARGUMENT,
                    () -> body.ask(c, group));
            }
            if (keepers < 8) {
                Checks.dueThrow(call + "(128) of " + keepers, c, Checks.ARGUMENT, () -> body.ask(c, 128));
                Checks.dueThrow(call + "(255) of " + keepers, c, Checks.ARGUMENT, () -> body.ask(c, 255));
            }
            Checks.due("all of " + keepers, body.ask(c, all), 1);
            if (keepers > 0) {
                c.die(keepers - 1);
                Checks.due("a dead one is there", body.ask(c, all), 1);
            }
        }
    }
}
