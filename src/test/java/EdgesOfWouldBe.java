import java.math.BigInteger;

/** The boundary cases that promises 22 to 27 name, each sentence by a test of its own. */
final class EdgesOfWouldBe {
    private static final int NONE = CapsuleKeepers.NONE;
    private static final int LEAST = Integer.MIN_VALUE;
    private static final int MOST = Integer.MAX_VALUE;

    private EdgesOfWouldBe() {
    }

    static void run() {
        smallest();
        groups();
        needed();
        peace();
        peaceOfSeveral();
        firstShare();
        digest();
    }

    /** Eight keepers of whom each pair quarrels. */
    private static CapsuleKeepers allAtOdds(int quorum) {
        CapsuleKeepers c = Checks.sealed(8, 5, quorum, 0);
        for (int one = 0; one < 8; one++) {
            for (int other = one + 1; other < 8; other++) {
                c.quarrel(one, other);
            }
        }
        return c;
    }

    private static void dueSmallest(String when, CapsuleKeepers c, int size, int group) {
        Checks.due(when + ", smallest(0)", c.smallest(0), size);
        Checks.due(when + ", smallest(1)", c.smallest(1), group);
    }

    private static void smallest() {
        Sentences.holds(22, "Finds the smallest group that could open the capsule, if the date had come.", () -> {
            for (int quorum = 1; quorum <= 8; quorum++) {
                CapsuleKeepers c = Checks.sealed(8, 5, quorum, 9999);
                dueSmallest("ahead of the date", c, quorum, (1 << quorum) - 1);
                Checks.due("but it would be refused", c.why((1 << quorum) - 1), 4);
            }
            CapsuleKeepers now = Checks.sealed(1, 5, 1, 0);
            dueSmallest("the date has come", now, 1, 1);
        });
        Sentences.holds(22, "- `what`: 0: how many keepers it has; 1: the group, of several the least mask", () -> {
            dueSmallest("of twenty-eight pairs", Checks.sealed(8, 5, 2, 0), 2, 3);
            CapsuleKeepers c = Checks.sealed(8, 5, 2, 0);
            c.quarrel(0, 1);
            dueSmallest("0 and 1 quarrel", c, 2, 5);
            c.quarrel(0, 2);
            dueSmallest("1 and 2 before 0 and 3", c, 2, 6);
            c.heir(6, 7);
            c.die(6);
            dueSmallest("one who has two, though of a greater mask", c, 1, 128);
            c.forge(6, (c.share(6, 0) + 1) % 251);
            dueSmallest("one of these is forged", c, 2, 6);
            dueSmallest("the greatest group", Checks.sealed(8, 5, 8, 0), 8, 255);
            dueSmallest("the last keeper alone", alone(), 1, 128);
        });
        Sentences.holds(22, "Returns the number; NONE if there is none.", () -> {
            dueSmallest("nobody", new CapsuleKeepers(), NONE, NONE);
            dueSmallest("no capsule", Checks.withKeepers(8), NONE, NONE);
            dueSmallest("all quarrel", allAtOdds(2), NONE, NONE);
            dueSmallest("all quarrel, but one is enough", allAtOdds(1), 1, 1);
            CapsuleKeepers open = Checks.sealed(2, 5, 1, 0);
            open.open(1);
            dueSmallest("open", open, NONE, NONE);
            CapsuleKeepers few = Checks.sealed(3, 5, 3, 0);
            few.die(1);
            dueSmallest("too few shares", few, NONE, NONE);
            CapsuleKeepers forged = Checks.sealed(2, 5, 2, 0);
            forged.forge(1, (forged.share(1, 0) + 1) % 251);
            dueSmallest("forged", forged, NONE, NONE);
        });
        Sentences.holds(22, "Throws `IllegalArgumentException` if what is not 0 or 1", () -> {
            CapsuleKeepers none = new CapsuleKeepers();
            CapsuleKeepers c = Checks.sealed(2, 5, 2, 0);
            for (int what : new int[] {-1, 2, LEAST, MOST}) {
                Checks.dueThrow("smallest(" + what + ")", none, Checks.ARGUMENT, () -> none.smallest(what));
                Checks.dueThrow("smallest(" + what + ")", c, Checks.ARGUMENT, () -> c.smallest(what));
            }
        });
    }

    /** The last of eight alone can open it: all others are dead. */
    private static CapsuleKeepers alone() {
        CapsuleKeepers c = Checks.sealed(8, 5, 1, 0);
        for (int keeper = 0; keeper < 7; keeper++) {
            c.die(keeper);
        }
        return c;
    }

    private static void groups() {
        Sentences.holds(23, "Counts the groups that could open the capsule, if the date had come.", () -> {
            int[] atLeast = {255, 247, 219, 163, 93, 37, 9, 1};
            for (int quorum = 1; quorum <= 8; quorum++) {
                CapsuleKeepers c = Checks.sealed(8, 5, quorum, 9999);
                Checks.due("of eight by " + quorum, c.groups(), atLeast[quorum - 1]);
            }
            CapsuleKeepers c = Checks.sealed(2, 5, 2, 0);
            c.keeper();
            Checks.due("with and without one who owns none", c.groups(), 2);
            c.quarrel(0, 2);
            Checks.due("one of them quarrels", c.groups(), 1);
        });
        Sentences.holds(23, "Returns how many.", () -> {
            Checks.due("nobody", new CapsuleKeepers().groups(), 0);
            Checks.due("no capsule", Checks.withKeepers(8).groups(), 0);
            Checks.due("all quarrel", allAtOdds(2).groups(), 0);
            Checks.due("each alone", allAtOdds(1).groups(), 8);
            Checks.due("one alone", alone().groups(), 1);
            CapsuleKeepers c = alone();
            c.die(7);
            Checks.due("all are dead", c.groups(), 0);
            CapsuleKeepers open = Checks.sealed(8, 5, 1, 0);
            open.open(255);
            Checks.due("open", open.groups(), 0);
        });
    }

    private static void needed() {
        Sentences.holds(24, "Finds the keepers without whom it would stay shut.", () -> {
            for (int quorum = 1; quorum <= 8; quorum++) {
                Checks.due("eight by " + quorum, Checks.sealed(8, 5, quorum, 9999).needed(), quorum == 8 ? 255 : 0);
                Checks.due("as many as the quorum", Checks.sealed(quorum, 5, quorum, 0).needed(), (1 << quorum) - 1);
            }
        });
        Sentences.holds(24, "Returns a mask of the keepers who live and whose death would leave no group that could "
            + "open the capsule, if the date had come; 0 if there is no such group now.", () -> {
            Checks.due("nobody", new CapsuleKeepers().needed(), 0);
            Checks.due("no capsule", Checks.withKeepers(8).needed(), 0);
            Checks.due("no group now", allAtOdds(2).needed(), 0);
            Checks.due("the last one alone", alone().needed(), 128);
            CapsuleKeepers open = Checks.sealed(2, 5, 2, 0);
            open.open(3);
            Checks.due("open", open.needed(), 0);
            CapsuleKeepers c = Checks.sealed(2, 5, 2, 0);
            c.heir(0, 1);
            Checks.due("0's share would be 1's", c.needed(), 2);
            c.keeper();
            c.heir(0, 2);
            Checks.due("the heir comes with 1", c.needed(), 2);
            c.quarrel(1, 2);
            Checks.due("the heir does not", c.needed(), 3);
            c.quarrel(1, 2);
            c.die(2);
            Checks.due("the heir is dead", c.needed(), 3);
            CapsuleKeepers hub = Checks.sealed(3, 5, 2, 0);
            hub.quarrel(1, 2);
            Checks.due("who comes with both", hub.needed(), 1);
            hub.heir(0, 1);
            Checks.due("who leaves the share to one of them", hub.needed(), 0);
            hub.forge(0, (hub.share(0, 0) + 1) % 251);
            Checks.due("a forged one: no group now", hub.needed(), 0);
        });
    }

    private static void duePeace(String when, CapsuleKeepers c, int former, int latter) {
        Checks.due(when + ", peace(false)", c.peace(false), former);
        Checks.due(when + ", peace(true)", c.peace(true), latter);
    }

    private static void peace() {
        Sentences.holds(25, "Finds the peace that would help most.", () -> {
            for (int one = 0; one < 8; one++) {
                for (int other = one + 1; other < 8; other++) {
                    CapsuleKeepers c = Checks.sealed(8, 5, 2, 9999);
                    c.quarrel(other, one);
                    duePeace("the one pair", c, one, other);
                    Checks.due("they quarrel on", c.count(7), 1);
                }
            }
        });
        Sentences.holds(25, "- `latter`: whether the latter keeper is told, otherwise the former one", () -> {
            CapsuleKeepers c = Checks.sealed(8, 5, 8, 0);
            c.quarrel(7, 0);
            Checks.due("peace(false)", c.peace(false), 0);
            Checks.due("peace(true)", c.peace(true), 7);
        });
    }

    private static void peaceOfSeveral() {
        Sentences.holds(25, "Returns of the pairs that quarrel, and both live, the one with whose peace most groups "
            + "could open the capsule, if the date had come, of several the one with the lowest former, then the "
            + "lowest latter keeper; NONE if no such pair makes them more.", () -> {
            duePeace("nobody", new CapsuleKeepers(), NONE, NONE);
            duePeace("no quarrel", Checks.sealed(8, 5, 2, 0), NONE, NONE);
            CapsuleKeepers none = Checks.withKeepers(2);
            none.quarrel(0, 1);
            duePeace("no capsule", none, NONE, NONE);
            none.seal(5, 1, 0);
            duePeace("the two together", none, 0, 1);
            none.open(1);
            duePeace("open", none, NONE, NONE);
            duePeace("all pairs help as much", allAtOdds(2), 0, 1);
            duePeace("three would have to come together", allAtOdds(3), NONE, NONE);
            CapsuleKeepers last = Checks.sealed(8, 5, 2, 0);
            last.quarrel(6, 7);
            last.quarrel(2, 5);
            duePeace("the lowest former", last, 2, 5);
            last.quarrel(2, 4);
            last.quarrel(2, 5);
            last.quarrel(4, 3);
            last.quarrel(2, 4);
            duePeace("that quarrels now", last, 3, 4);
            CapsuleKeepers latter = Checks.sealed(8, 5, 2, 0);
            latter.quarrel(1, 7);
            latter.quarrel(1, 6);
            duePeace("the lowest latter", latter, 1, 6);
            latter.quarrel(4, 5);
            duePeace("4 and 5 quarrel with nobody else", latter, 4, 5);
            latter.die(4);
            duePeace("one of them is dead", latter, 1, 6);
            latter.die(6);
            duePeace("and one of these", latter, 1, 7);
            latter.die(1);
            duePeace("no pair that lives", latter, NONE, NONE);
            CapsuleKeepers more = Checks.sealed(3, 5, 3, 0);
            more.quarrel(0, 1);
            more.quarrel(0, 2);
            duePeace("one peace alone does not help", more, NONE, NONE);
            more.quarrel(0, 1);
            duePeace("the last one does", more, 0, 2);
            more.forge(1, (more.share(1, 0) + 1) % 251);
            duePeace("but not with a forged share", more, NONE, NONE);
        });
    }

    private static void firstShare() {
        Sentences.holds(26, "Returns how many shares are with their first owners.", () -> {
            for (int keepers = 1; keepers <= 8; keepers++) {
                Checks.dueDouble("all", Checks.sealed(keepers, 5, 1, 0).firstShare(), 1.0);
            }
        });
        Sentences.holds(26, "Returns the shares whose owners have their numbers, as a double, divided by all shares "
            + "that there are; 1.0 without shares.", () -> {
            Checks.dueDouble("nobody", new CapsuleKeepers().firstShare(), 1.0);
            Checks.dueDouble("no capsule", Checks.withKeepers(8).firstShare(), 1.0);
            for (int all = 2; all <= 8; all++) {
                CapsuleKeepers c = Checks.sealed(all, 5, 1, 0);
                for (int dead = 1; dead < all; dead++) {
                    c.heir(dead - 1, all - 1);
                    c.die(dead - 1);
                    Checks.dueDouble(dead + " of " + all, c.firstShare(), (double) (all - dead) / all);
                }
                c.die(all - 1);
                Checks.dueDouble("all are gone", c.firstShare(), 1.0);
            }
            CapsuleKeepers none = Checks.sealed(1, 5, 1, 0);
            none.keeper();
            none.heir(0, 1);
            none.die(0);
            Checks.dueDouble("none", none.firstShare(), 0.0);
            none.renew();
            Checks.dueDouble("dealt anew", none.firstShare(), 1.0);
        });
    }

    private static void digest() {
        Sentences.holds(27, "Computes a hash of the whole state.", () -> {
            CapsuleKeepers c = Checks.sealed(8, 5, 2, 3);
            long first = c.digest();
            Checks.due("twice the same", c.digest(), first);
            c.append('d');
            Checks.due("the buffer counts", c.digest() == first ? 1 : 0, 0);
            c.clearBuffer();
            Checks.due("as it was", c.digest(), first);
        });
        Sentences.holds(27, "The hash starts at 3019.", () ->
            Checks.due("of a new object", new CapsuleKeepers().digest(), hashOf(BigInteger.valueOf(3019), NEW)));
        Sentences.holds(27, "For each value v of the following list, in order, the hash becomes 31 * hash + v, in "
            + "long arithmetic with overflow.", () -> {
            CapsuleKeepers c = new CapsuleKeepers();
            Checks.write(c, "~".repeat(60));
            long[] values = java.util.Arrays.copyOf(NEW, NEW.length + 60);
            java.util.Arrays.fill(values, NEW.length, values.length, '~');
            values[NEW.length - 1] = 60;
            Checks.due("a full buffer", c.digest(), hashOf(BigInteger.valueOf(3019), values));
        });
        Sentences.holds(27, "The values are: count(0) to count(11); for each keeper the properties 0 to 4; for each "
            + "share 0 to 7 its properties 0 to 2; told of the masks 7, 14, 56 and 255; possible of the masks 0, 3, "
            + "7, 24 and 255; why of the group of all keepers; smallest with 0 and 1; groups; needed; peace, the "
            + "former one first; the bits of firstShare (as Double.doubleToLongBits); the length of the buffer and "
            + "each of its character codes.", () -> {
            for (int steps = 0; steps <= STEPS; steps++) {
                CapsuleKeepers c = afterSteps(steps);
                String buffer = steps < 2 ? "" : steps < 12 ? "!~" : "h7";
                Checks.due("after " + steps + " steps", c.digest(), Digest.of(c, buffer));
            }
        });
        Sentences.holds(27, "Returns the hash.", () -> {
            CapsuleKeepers c = Checks.sealed(8, 250, 8, 9999);
            Checks.due("as from its values", c.digest(), Digest.of(c, ""));
        });
    }

    private static final int STEPS = 17;

    private static CapsuleKeepers afterSteps(int steps) {
        CapsuleKeepers c = new CapsuleKeepers();
        Checks.Call[] calls = {c::keeper, () -> Checks.write(c, "!~"), () -> fill(c), () -> c.seal(123, 3, 10),
            () -> c.quarrel(0, 5), () -> c.heir(1, 2), () -> c.die(1), () -> c.forge(4, 9), () -> c.open(61),
            () -> c.die(7), () -> c.pass(10), () -> Checks.write(clear(c), "h7"), () -> c.quarrel(6, 5),
            () -> c.renew(), () -> c.forge(0, c.share(0, 0)), () -> c.open(92), c::undo};
        for (int i = 0; i < steps; i++) {
            calls[i].run();
        }
        return c;
    }

    private static void fill(CapsuleKeepers c) {
        for (int i = c.count(0); i < 8; i++) {
            c.keeper();
        }
    }

    private static CapsuleKeepers clear(CapsuleKeepers c) {
        c.clearBuffer();
        return c;
    }

    /** The list of promise 27 of a new object. */
    private static final long[] NEW = {0, 0, 0, 0, -1, -1, 0, 0, 0, 0, 1, 0,
        -1, -1, -1, -1, -1, -1, -1, -1, -1, -1, -1, -1, -1, -1, -1, -1, -1, -1, -1, -1, -1, -1, -1, -1,
        -1, -1, -1, -1, -1, -1, -1, -1, -1, 1, -1, -1, 0, 0, -1, -1, 0x3FF0000000000000L, 0};

    private static long hashOf(BigInteger start, long[] values) {
        BigInteger hash = start;
        for (long value : values) {
            hash = hash.multiply(BigInteger.valueOf(31)).add(BigInteger.valueOf(value));
        }
        return hash.longValue();
    }
}
