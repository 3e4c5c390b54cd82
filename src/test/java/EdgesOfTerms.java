/** The boundary cases that the document's terms name, each sentence by a test of its own. */
final class EdgesOfTerms {
    private static final int NONE = CapsuleKeepers.NONE;

    private EdgesOfTerms() {
    }

    private static void holds(String sentence, Checks.Call test) {
        Sentences.holds(Sentences.TERMS, sentence, test);
    }

    static void run() {
        field();
        keepers();
        shares();
        opening();
        text();
        undo();
        exceptions();
        nothingIsChanged();
    }

    private static void field() {
        holds("All numbers are integers, but for a share that is told as a double; rests are 0 or more.", () -> {
            CapsuleKeepers c = Checks.sealed(8, 0, 2, 0);
            int[] values = {0, 1, 125, 126, 249, 250};
            for (int low : values) {
                for (int high : values) {
                    c.forge(0, low);
                    c.forge(1, high);
                    c.forge(7, high);
                    Checks.due("told(3) by " + low + ", " + high, c.told(3), Math.floorMod(2 * low - high, 251));
                    Checks.due("told(129) by " + low + ", " + high, c.told(129),
                        Arithmetic.lineAtZero(0, low, 7, high));
                    Checks.due("told(130) by " + high + " twice", c.told(130), high);
                }
            }
            c.heir(0, 1);
            c.die(0);
            Checks.dueDouble("seven of eight", c.firstShare(), 0.875);
        });
        holds("All reckoning with the key and the shares is by rests by 251.", () -> {
            for (int key : new int[] {0, 1, 249, 250}) {
                for (int quorum = 1; quorum <= 8; quorum++) {
                    dueDealt(Checks.sealed(8, key, quorum, 0), key, quorum, 0);
                }
            }
        });
        holds("Draws are made by a number x, at first 1: for a draw x becomes the rest of (171 times x, and 11213 "
            + "added to that) by 53125; the draw is the rest of x by 251.", EdgesOfTerms::draws);
    }

    private static void dueDealt(CapsuleKeepers c, int key, int quorum, int drawsBefore) {
        for (int share = 0; share < c.count(0); share++) {
            Checks.due("share " + share + " of " + key + " by " + quorum + " after " + drawsBefore,
                c.share(share, 0), Arithmetic.dealt(share, key, quorum, drawsBefore));
        }
    }

    private static void draws() {
        CapsuleKeepers c = Checks.withKeepers(8);
        Checks.due("x at first", c.count(10), 1);
        c.seal(0, 2, 0);
        Checks.due("x after a draw", c.count(10), 11384);
        Checks.due("the draw", c.share(0, 0), 11384 % 251);
        c.renew();
        Checks.due("x, the first one that wraps", c.count(10), 45377);
        Checks.due("its draw", c.share(0, 0), 45377 % 251);
        c.seal(250, 8, 0);
        int draws = 9;
        for (int i = 0; i < 20; i++) {
            Checks.due("x after " + draws + " draws", c.count(10), Arithmetic.xAfter(draws));
            c.renew();
            dueDealt(c, 250, 8, draws);
            draws += 7;
        }
        CapsuleKeepers longer = Checks.sealed(8, 250, 8, 0);
        for (int i = 0; i < 400; i++) {
            longer.renew();
        }
        Checks.due("x after 2807 draws", longer.count(10), Arithmetic.xAfter(2807));
        dueDealt(longer, 250, 8, 2800);
    }

    private static void keepers() {
        holds("There are at most 8 keepers, numbered from 0 in the order in which they came.", () -> {
            CapsuleKeepers c = new CapsuleKeepers();
            for (int i = 0; i < 8; i++) {
                Checks.due("keeper()", c.keeper(), i);
            }
            c.die(7);
            Checks.dueThrow("a ninth in a dead one's place", c, Checks.STATE, c::keeper);
            Checks.due("keepers", c.count(0), 8);
        });
        holds("A keeper lives or is dead, and has an heir (the number of another keeper) or none, at first none.",
            () -> {
            CapsuleKeepers c = Checks.withKeepers(8);
            for (int i = 0; i < 8; i++) {
                Checks.due(i + " lives", c.keeperOf(i, 0), 1);
                Checks.due(i + " has none", c.keeperOf(i, 1), NONE);
            }
            c.heir(7, 0);
            c.heir(0, 7);
            Checks.due("the heir of 7", c.keeperOf(7, 1), 0);
            c.die(0);
            Checks.due("0 is dead", c.keeperOf(0, 0), 0);
            Checks.due("and has the heir still", c.keeperOf(0, 1), 7);
            Checks.due("and is the heir still", c.keeperOf(7, 1), 0);
        });
        holds("Two keepers quarrel or not, at first not; of two keepers each one quarrels with the other.", () -> {
            for (int one = 0; one < 8; one++) {
                for (int other = 0; other < 8; other++) {
                    CapsuleKeepers c = Checks.withKeepers(8);
                    Checks.due("at first", c.keeperOf(one, 3), 0);
                    if (one != other) {
                        c.quarrel(one, other);
                        Checks.due(one + " with " + other, c.keeperOf(one, 3), 1 << other);
                        Checks.due(other + " with " + one, c.keeperOf(other, 3), 1 << one);
                        Checks.due("a pair counts once", c.count(7), 1);
                        Checks.due(other + " makes peace", c.quarrel(other, one), 0);
                        Checks.due(one + " has peace, too", c.keeperOf(one, 3), 0);
                    }
                }
            }
        });
    }

    private static void shares() {
        holds("A capsule has a key, 0 to 250, a quorum, 1 to 8, and a date.", () -> {
            for (int quorum : new int[] {1, 8}) {
                for (int key : new int[] {0, 250}) {
                    CapsuleKeepers c = Checks.sealed(8, key, quorum, 9999);
                    Checks.due("the key", c.told(255), key);
                    Checks.due("the quorum", c.count(4), quorum);
                    Checks.due("the date", c.count(5), 9999);
                }
            }
        });
        holds("To deal means: for the powers 1, 2 and so on, up to the quorum less 1, a draw each is the coefficient; "
            + "the key is the coefficient of the power 0.", () -> {
            for (int quorum = 1; quorum <= 8; quorum++) {
                CapsuleKeepers c = Checks.sealed(8, 0, quorum, 0);
                Checks.due("draws for " + quorum, c.count(10), Arithmetic.xAfter(quorum - 1));
                c.renew();
                Checks.due("as many anew", c.count(10), Arithmetic.xAfter(2 * quorum - 2));
            }
            CapsuleKeepers three = Checks.sealed(8, 250, 3, 0);
            Checks.due("the first draw is for the power 1", three.share(1, 0), (250 + 89 * 2 + 197 * 4) % 251);
        });
        holds("Each keeper k who lives gets the share k: the sum, over all powers, of the coefficient times the power "
            + "of (k and 1).", () -> {
            CapsuleKeepers c = Checks.sealed(8, 123, 3, 0);
            for (int k = 0; k < 8; k++) {
                Checks.due("share " + k, c.share(k, 0), (123 + 89 * (k + 1) + 197 * (k + 1) * (k + 1)) % 251);
            }
            c.seal(17, 1, 0);
            for (int k = 0; k < 8; k++) {
                Checks.due("share " + k + " by the power 0 alone", c.share(k, 0), 17);
            }
        });
        holds("The shares of all others are gone.", () -> {
            CapsuleKeepers c = Checks.sealed(6, 5, 2, 0);
            Checks.due("no share of a keeper who is not there", c.share(6, 0), NONE);
            c.heir(0, 5);
            c.die(0);
            Checks.due("share 0 is inherited", c.share(0, 1), 5);
            c.renew();
            Checks.due("it is gone by a renewal", c.share(0, 1), NONE);
            c.heir(1, 5);
            c.die(1);
            c.seal(6, 2, 0);
            Checks.due("by a new capsule, too", c.share(1, 1), NONE);
            Checks.due("what 5 owns then", c.keeperOf(5, 2), 32);
            Checks.due("four are there", c.count(6), 4);
        });
        holds("A share has an owner, at first the keeper with its number.", () -> {
            CapsuleKeepers c = Checks.sealed(8, 5, 8, 0);
            for (int share = 0; share < 8; share++) {
                Checks.due("owner of " + share, c.share(share, 1), share);
                Checks.due("what " + share + " owns", c.keeperOf(share, 2), 1 << share);
            }
        });
        holds("When a keeper dies, all shares that this one owns go to the heir, if there is one who lives; otherwise "
            + "they are gone.", EdgesOfTerms::inheritance);
        holds("(Heirs of heirs do not matter at once.)", () -> {
            CapsuleKeepers c = Checks.sealed(4, 5, 2, 0);
            c.heir(0, 1);
            c.heir(1, 2);
            c.die(1);
            Checks.due("the heir is dead, the heir's heir lives", c.die(0), 0);
            Checks.due("the share is gone", c.share(0, 1), NONE);
            Checks.due("2 has the share of 1", c.keeperOf(2, 2), 6);
        });
    }

    private static void inheritance() {
        CapsuleKeepers c = Checks.sealed(8, 5, 2, 0);
        for (int keeper = 0; keeper < 7; keeper++) {
            c.heir(keeper, keeper + 1);
            Checks.due("die(" + keeper + ")", c.die(keeper), keeper + 1);
            Checks.due("the heir of " + keeper, c.keeperOf(keeper + 1, 2), (1 << keeper + 2) - 1);
            Checks.due("the dead one has none", c.keeperOf(keeper, 2), 0);
        }
        Checks.due("all eight are gone at once", c.die(7), 0);
        Checks.due("shares that there are", c.count(6), 0);

        CapsuleKeepers down = Checks.sealed(2, 5, 1, 0);
        down.heir(1, 0);
        Checks.due("to a lower number", down.die(1), 1);
        Checks.due("0 owns both", down.keeperOf(0, 2), 3);
        CapsuleKeepers dead = Checks.sealed(2, 5, 1, 0);
        dead.heir(1, 0);
        dead.die(0);
        Checks.due("the heir is dead", dead.die(1), 0);
        Checks.due("none is left", dead.count(6), 0);
    }

    private static void opening() {
        holds("A group of keepers tries to open the capsule: it is refused, for the first of these reasons that is "
            + "so: 1: there is no capsule, or it is open; 2: somebody of the group is dead, or the group is empty; 3: "
            + "two of the group quarrel; 4: the day is ahead of the date; 5: they own fewer shares together than the "
            + "quorum; 6: the key that is found is not the key (some share was forged).", () -> {
            for (int first = 1; first <= 7; first++) {
                CapsuleKeepers c = refusedFrom(first);
                Checks.due("the first reason of several", c.why(15), first % 7);
                Checks.due("open() says the same", c.open(15), first % 7);
            }
            Checks.due("an empty group without a capsule", new CapsuleKeepers().why(0), 1);
            Checks.due("an empty group ahead of the date", Checks.sealed(2, 0, 2, 1).why(0), 2);
            CapsuleKeepers open = Checks.sealed(2, 0, 1, 0);
            open.open(1);
            Checks.due("an empty group and an open one", open.why(0), 1);
        });
        holds("The key that is found is told by the shares of the group with the lowest numbers, as many as the "
            + "quorum: the value at 0 of the curve of the least power through them.", EdgesOfTerms::lowestShares);
    }

    /** A place where the group 15 is refused for this reason and all that come after it; 7: for none. */
    private static CapsuleKeepers refusedFrom(int first) {
        CapsuleKeepers c = Checks.withKeepers(5);
        if (first > 1) {
            c.seal(60, first > 5 ? 4 : 5, first > 4 ? 0 : 1);
            if (first <= 6) {
                c.forge(0, (c.share(0, 0) + 1) % 251);
            }
        }
        if (first <= 3) {
            c.quarrel(1, 3);
        }
        if (first <= 2) {
            c.die(2);
        }
        return c;
    }

    private static void lowestShares() {
        for (int quorum = 1; quorum <= 8; quorum++) {
            for (int forged = 0; forged < 8; forged++) {
                CapsuleKeepers c = Checks.sealed(8, 200, quorum, 0);
                c.forge(forged, (c.share(forged, 0) + 1) % 251);
                Checks.due("all, the share " + forged + " forged, quorum " + quorum, c.why(255),
                    forged < quorum ? 6 : 0);
            }
        }
        CapsuleKeepers heirs = Checks.sealed(8, 200, 3, 0);
        heirs.forge(5, (heirs.share(5, 0) + 1) % 251);
        heirs.heir(0, 7);
        heirs.die(0);
        Checks.due("0's share is 7's, the forged one is asked", heirs.why(192 + 32), 6);
        Checks.due("by the numbers of the shares, not of the owners", heirs.why(128 + 32 + 6), 0);
    }

    private static void text() {
        holds("The buffer has at most 60 characters.", () -> {
            CapsuleKeepers c = new CapsuleKeepers();
            for (int i = 1; i <= 60; i++) {
                Checks.due("append", c.append('r'), i);
            }
            Checks.dueThrow("one more", c, Checks.STATE, () -> c.append('r'));
            Checks.due("its length", c.clearBuffer(), 60);
        });
        holds("Days as a text are one or more orders with \";\" between them: \"d\" and a digit (this keeper dies); "
            + "\"q\", a digit, \"-\", a digit (these two quarrel, or make peace, if they do); \"h\", a digit, \">\", "
            + "a digit (the latter is the heir of the former); \"t\" and days, 1 to 999 (they go by); \"r\" (a "
            + "renewal).",
            () -> {
            dueTexts(true, "d0", "d7", "q0-7", "q7-0", "q3-3", "h0>7", "h7>0", "h4>4", "t1", "t999", "r", "r;r",
                "d0;q0-1;h0>1;t1;r");
            dueTexts(false, "", ";", "d0;", ";d0", "d0;;r", "d", "q0", "q0-", "q0-1-2", "q0>1", "h0", "h0>", "h0-1",
                "h0>1>2", "t", "t1000", "t0", "r1", "rr", "d0r", "D0", "d-1", "d0,r", "e1");
        });
        holds("Digits are 0 to 7; numbers are without leading zeros.", () -> {
            dueTexts(true, "d0", "d7", "t8", "t9", "t10", "t80", "t89", "t100", "t808", "t990");
            dueTexts(false, "d8", "d9", "d/", "d:", "d00", "d07", "q8-0", "q0-8", "h8>0", "h0>8", "q0-00", "h00>1",
                "t0", "t00", "t01", "t09", "t001", "t010");
        });
        holds("The buffer is read from left to right; a character is a syntax error if no days as a text, of any "
            + "length, begin with the characters before it and this character.", () -> {
            for (String last : new String[] {"r", "d", "q", "h", "t", ";", "x"}) {
                CapsuleKeepers c = new CapsuleKeepers();
                Checks.write(c, "r;".repeat(28) + "d1;");
                Checks.write(c, last);
                Checks.due("the sixtieth is " + last, c.firstError(), last.equals(";") || last.equals("x") ? 59 : 60);
            }
            CapsuleKeepers two = new CapsuleKeepers();
            Checks.write(two, "d9;t0");
            Checks.due("the first of two errors", two.firstError(), 1);
        });
    }

    /** A keeper's number in a whole text may name nobody: then live() does nothing, but does not throw. */
    private static void dueTexts(boolean whole, String... texts) {
        for (String text : texts) {
            CapsuleKeepers c = new CapsuleKeepers();
            Checks.write(c, text);
            if (whole) {
                Checks.due("no error in " + text, c.firstError(), text.length());
                Checks.due("the orders done of " + text, c.live(), text.charAt(0) == 't' ? 1 : 0);
            } else {
                Checks.dueThrow("live() of " + text, c, Checks.ARGUMENT, c::live);
            }
        }
    }

    private static void undo() {
        holds("Each method that is marked \"undoable\" and does not throw an exception saves the state from before it "
            + "(also if it changes nothing): all, also x and what is counted so far, but the buffer and the saved "
            + "states.", () -> {
            CapsuleKeepers c = Checks.sealed(4, 250, 3, 2);
            c.undo();
            c.undo();
            c.undo();
            Checks.write(c, "d3;h0");
            Checks.dueUndoable("keeper()", c, c::keeper);
            Checks.dueUndoable("seal()", c, () -> c.seal(0, 1, 0));
            Checks.due("x", c.count(10), 1);
            CapsuleKeepers d = Checks.sealed(3, 250, 2, 0);
            Checks.dueUndoable("renew()", d, d::renew);
            Checks.due("x of a draw", d.count(10), 11384);
            Checks.dueUndoable("forge() to the same", d, () -> d.forge(2, d.share(2, 0)));
            Checks.dueUndoable("pass()", d, () -> d.pass(1));
            Checks.dueUndoable("open()", d, () -> d.open(3));
            Checks.dueUndoable("open(), refused", d, () -> d.open(0));
            Checks.dueUndoable("die()", d, () -> d.die(0));
            Checks.dueUndoable("heir() to the same", d, () -> d.heir(0, NONE));
            Checks.dueUndoable("quarrel()", d, () -> d.quarrel(2, 0));
            Checks.due("the key", d.told(7), 250);
            Checks.write(d, "r");
            int saved = d.count(11);
            d.live();
            Checks.due("live()", d.undo(), saved);
            Checks.due("the buffer is not brought back", d.clearBuffer(), 0);
        });
        holds("At most 6 states are saved; the oldest one is dropped first.", () -> {
            CapsuleKeepers c = new CapsuleKeepers();
            for (int day = 1; day <= 9; day++) {
                c.pass(1);
                Checks.due("saved states", c.count(11), Math.min(day, 6));
            }
            for (int day = 8; day >= 3; day--) {
                Checks.due("undo()", c.undo(), day - 3);
                Checks.due("the day", c.count(2), day);
            }
            Checks.dueThrow("a seventh undo()", c, Checks.STATE, c::undo);
        });
    }

    private static void exceptions() {
        holds("A call that throws an exception changes nothing.", () -> {
            CapsuleKeepers plain = aPlace();
            CapsuleKeepers c = aPlace();
            Checks.dueThrow("die(2)", c, Checks.STATE, () -> c.die(2));
            Checks.dueThrow("heir(1, 2)", c, Checks.STATE, () -> c.heir(1, 2));
            Checks.dueThrow("quarrel(1, 1)", c, Checks.STATE, () -> c.quarrel(1, 1));
            Checks.dueThrow("seal(7, 3, 1)", c, Checks.STATE, () -> c.seal(7, 3, 1));
            Checks.dueThrow("seal(251, 1, 1)", c, Checks.ARGUMENT, () -> c.seal(251, 1, 1));
            Checks.dueThrow("forge(2, 5)", c, Checks.STATE, () -> c.forge(2, 5));
            Checks.dueThrow("forge(1, 251)", c, Checks.ARGUMENT, () -> c.forge(1, 251));
            Checks.dueThrow("pass(1000)", c, Checks.ARGUMENT, () -> c.pass(1000));
            Checks.dueThrow("open(8)", c, Checks.ARGUMENT, () -> c.open(8));
            Checks.dueThrow("append(32)", c, Checks.ARGUMENT, () -> c.append(32));
            Checks.dueThrow("live()", c, Checks.ARGUMENT, c::live);
            while (plain.count(11) > 0) {
                Checks.due("undo() after exceptions", c.undo(), plain.undo());
                Checks.due("the state by undo()", c.digest(), plain.digest());
            }
            Checks.dueThrow("undo()", c, Checks.STATE, c::undo);
            Checks.dueThrow("renew()", c, Checks.STATE, c::renew);
        });
        holds("If several exceptions apply, the one that is named first in the throws clause is thrown.", () -> {
            CapsuleKeepers c = aPlace();
            Checks.dueThrow("heir(3, 3)", c, Checks.INDEX, () -> c.heir(3, 3));
            Checks.dueThrow("heir(2, -2)", c, Checks.INDEX, () -> c.heir(2, -2));
            Checks.dueThrow("quarrel(-1, -1)", c, Checks.INDEX, () -> c.quarrel(-1, -1));
            Checks.dueThrow("seal(0, 3, 10000)", c, Checks.ARGUMENT, () -> c.seal(0, 3, 10000));
            Checks.dueThrow("seal(0, 9, 0)", c, Checks.ARGUMENT, () -> c.seal(0, 9, 0));
            Checks.dueThrow("forge(2, 251)", c, Checks.ARGUMENT, () -> c.forge(2, 251));
            Checks.dueThrow("keeperOf(3, 5)", c, Checks.INDEX, () -> c.keeperOf(3, 5));
            for (int i = 0; i < 101; i++) {
                c.pass(i < 100 ? 999 : 98);
            }
            Checks.dueThrow("pass(1000) late", c, Checks.ARGUMENT, () -> c.pass(1000));
            Checks.write(c, "x".repeat(58));
            Checks.dueThrow("append(127) to 60", c, Checks.ARGUMENT, () -> c.append(127));
        });
        holds("The constants: `NONE = -1`: There is nothing to return.", () -> {
            Checks.due("NONE", CapsuleKeepers.NONE, -1);
            Checks.due("no heir", Checks.withKeepers(1).keeperOf(0, 1), NONE);
            Checks.due("no share", Checks.withKeepers(1).share(0, 0), NONE);
        });
    }

    /** Three keepers, the last one dead, a capsule, a quarrel, an heir, a forged share, two characters. */
    private static CapsuleKeepers aPlace() {
        CapsuleKeepers c = Checks.sealed(3, 99, 2, 7);
        c.heir(0, 1);
        c.quarrel(0, 1);
        c.forge(1, 250);
        c.die(2);
        Checks.write(c, "d8");
        return c;
    }

    private static void nothingIsChanged() {
        holds("Ahead of the calls `keeperOf`, `share`, `count`, `why`, `told`, `possible` the interface says: ---- "
            + "looks; nothing is changed.", () -> {
            CapsuleKeepers plain = aPlace();
            CapsuleKeepers c = aPlace();
            for (int i = 0; i < 8; i++) {
                c.keeperOf(i % 3, i % 5);
                c.share(i, i % 3);
                c.count(i);
                c.why(i);
                c.told(i);
                c.possible(i);
            }
            dueAlike(c, plain);
        });
        holds("Ahead of the calls `smallest`, `groups`, `needed`, `peace`, `firstShare`, `digest` the interface says: "
            + "---- what would be; nothing is changed.", () -> {
            CapsuleKeepers plain = aPlace();
            CapsuleKeepers c = aPlace();
            plain.forge(0, 0);
            c.forge(0, 0);
            c.smallest(0);
            c.smallest(1);
            c.groups();
            c.needed();
            c.peace(false);
            c.peace(true);
            c.firstShare();
            c.digest();
            dueAlike(c, plain);
        });
    }

    private static void dueAlike(CapsuleKeepers c, CapsuleKeepers plain) {
        Checks.due("why(3)", c.why(3), plain.why(3));
        Checks.due("digest()", c.digest(), plain.digest());
        Checks.due("die(0)", c.die(0), plain.die(0));
        Checks.due("renew()", c.quarrel(0, 1), plain.quarrel(0, 1));
        while (plain.count(11) > 0) {
            Checks.due("undo()", c.undo(), plain.undo());
            Checks.due("digest() by undo()", c.digest(), plain.digest());
        }
        Checks.due("buffer", c.clearBuffer(), plain.clearBuffer());
    }
}
