/** The boundary cases that promises 11 to 15 name, each sentence by a test of its own. */
final class EdgesOfTexts {
    private static final int NONE = CapsuleKeepers.NONE;
    private static final int LEAST = Integer.MIN_VALUE;
    private static final int MOST = Integer.MAX_VALUE;

    private EdgesOfTexts() {
    }

    static void run() {
        append();
        clearBuffer();
        firstError();
        live();
        liveAsTheMethods();
        undo();
    }

    private static void append() {
        Sentences.holds(11, "Appends a character to the buffer.", () -> {
            CapsuleKeepers c = new CapsuleKeepers();
            c.append(33);
            c.append(126);
            Checks.due("both, in order", c.digest(), Digest.of(c, "!~"));
            Checks.due("nothing is saved", c.count(11), 0);
        });
        Sentences.holds(11, "- `code`: the character code, 33 to 126", () -> {
            for (int from : new int[] {33, 67}) {
                CapsuleKeepers c = new CapsuleKeepers();
                StringBuilder written = new StringBuilder();
                for (int code = from; code < from + 60; code++) {
                    written.append((char) code);
                    Checks.due("append(" + code + ")", c.append(code), written.length());
                }
                Checks.due("digest() from " + from, c.digest(), Digest.of(c, written.toString()));
            }
        });
        Sentences.holds(11, "Returns the new length of the buffer.", () -> {
            CapsuleKeepers c = new CapsuleKeepers();
            Checks.due("from empty", c.append('!'), 1);
            for (int i = 2; i < 60; i++) {
                c.append('!');
            }
            Checks.due("to full", c.append('!'), 60);
            c.clearBuffer();
            Checks.due("from empty again", c.append('!'), 1);
        });
        Sentences.holds(11, "Throws `IllegalArgumentException` if code is not 33 to 126", () -> {
            CapsuleKeepers c = new CapsuleKeepers();
            CapsuleKeepers full = full();
            for (int code : new int[] {32, 127, 0, 10, -1, 128, 289, 65569, LEAST, MOST}) {
                Checks.dueThrow("append(" + code + ")", c, Checks.ARGUMENT, () -> c.append(code));
                Checks.dueThrow("append(" + code + ") to 60", full, Checks.ARGUMENT, () -> full.append(code));
            }
        });
        Sentences.holds(11, "Throws `IllegalStateException` if the buffer has 60 characters", () -> {
            CapsuleKeepers full = full();
            Checks.dueThrow("append(33)", full, Checks.STATE, () -> full.append(33));
            Checks.dueThrow("append(126)", full, Checks.STATE, () -> full.append(126));
            full.clearBuffer();
            Checks.due("cleared", full.append(126), 1);
        });
    }

    private static CapsuleKeepers full() {
        CapsuleKeepers c = new CapsuleKeepers();
        Checks.write(c, "t1;".repeat(20));
        return c;
    }

    private static void clearBuffer() {
        Sentences.holds(12, "Clears the buffer.", () -> {
            CapsuleKeepers c = full();
            c.clearBuffer();
            Checks.due("digest()", c.digest(), Digest.of(c, ""));
            Checks.dueThrow("live()", c, Checks.ARGUMENT, c::live);
            Checks.write(c, "t9");
            Checks.due("nothing of the old text", c.live(), 1);
            Checks.due("the day", c.count(2), 9);
        });
        Sentences.holds(12, "Returns the length that it had.", () -> {
            CapsuleKeepers c = full();
            Checks.due("full", c.clearBuffer(), 60);
            Checks.due("empty", c.clearBuffer(), 0);
            c.append('x');
            Checks.due("one", c.clearBuffer(), 1);
            Checks.due("nothing is saved", c.count(11), 0);
        });
    }

    private static void firstError() {
        Sentences.holds(13, "Finds the first syntax error of the buffer.", () -> {
            CapsuleKeepers c = new CapsuleKeepers();
            String[] errorsFromTheEnd = {"xxxx", "d9xx", "d0xx", "d0;x"};
            for (int at = 0; at < errorsFromTheEnd.length; at++) {
                Checks.write(c, errorsFromTheEnd[at]);
                Checks.due(errorsFromTheEnd[at], c.firstError(), at);
                Checks.due("nothing is changed", c.clearBuffer(), 4);
            }
        });
        Sentences.holds(13, "Returns the index of the first character that is a syntax error; the length of the "
            + "buffer if there is none.", () -> {
            Checks.due("empty", new CapsuleKeepers().firstError(), 0);
            Checks.due("full, none", full().firstError(), 60);
            everySignAfter("", "dqhtr");
            everySignAfter("d", "01234567");
            everySignAfter("d7", ";");
            everySignAfter("q", "01234567");
            everySignAfter("q0", "-");
            everySignAfter("q0-", "01234567");
            everySignAfter("q0-7", ";");
            everySignAfter("h", "01234567");
            everySignAfter("h7", ">");
            everySignAfter("h7>", "01234567");
            everySignAfter("h7>7", ";");
            everySignAfter("t", "123456789");
            everySignAfter("t1", "0123456789;");
            everySignAfter("t90", "0123456789;");
            everySignAfter("t999", ";");
            everySignAfter("r", ";");
            everySignAfter("r;", "dqhtr");
            everySignAfter("t5;t", "123456789");
            everySignAfter("t1;".repeat(19) + "t1", "0123456789;");
            everySignAfter("d8", "");
        });
    }

    /** Of all signs just these may stand behind the start, which itself has no error. */
    private static void everySignAfter(String start, String good) {
        for (int code = 33; code <= 126; code++) {
            CapsuleKeepers c = new CapsuleKeepers();
            Checks.write(c, start);
            c.append(code);
            int error = start.equals("d8") ? 1 : start.length();
            Checks.due("'" + (char) code + "' after '" + start + "'", c.firstError(),
                good.indexOf(code) >= 0 ? start.length() + 1 : error);
        }
    }

    private static void live() {
        Sentences.holds(14, "Undoable, as one call, also if none is done.", () -> {
            CapsuleKeepers c = Checks.sealed(3, 5, 2, 0);
            Checks.write(c, "d0;t5;r;q1-2;h1>2");
            c.live();
            Checks.due("saved states", c.count(11), 5);
            Checks.due("undo()", c.undo(), 4);
            Checks.due("0 lives", c.keeperOf(0, 0), 1);
            Checks.due("the day", c.count(2), 0);
            Checks.due("dealings", c.count(8), 1);
            Checks.due("pairs", c.count(7), 0);
            Checks.due("heir", c.keeperOf(1, 1), NONE);
            Checks.due("the buffer stays clear", c.clearBuffer(), 0);
            c.pass(1);
            Checks.due("none is done", Checks.liveBy(c, "d7;t5"), 0);
            Checks.due("saved states", c.count(11), 6);
            Checks.due("undo()", c.undo(), 5);
            Checks.due("the day before", c.count(2), 1);
        });
        Sentences.holds(14, "Returns how many are done.", () -> {
            CapsuleKeepers c = Checks.sealed(2, 5, 1, 0);
            Checks.due("none", Checks.liveBy(c, "d2"), 0);
            Checks.due("one", Checks.liveBy(c, "r"), 1);
            Checks.due("all of thirty", Checks.liveBy(c, "r;".repeat(29) + "r"), 30);
            Checks.due("all but the last", Checks.liveBy(c, "r;".repeat(28) + "d2"), 28);
            Checks.due("the first alone", Checks.liveBy(c, "t1;d2;t1;t1"), 1);
        });
        Sentences.holds(14, "Throws `IllegalArgumentException` if the buffer does not tell days as a text", () -> {
            CapsuleKeepers c = Checks.sealed(8, 5, 1, 0);
            for (String text : new String[] {"", ";", "x", "d", "d0;", "q", "q0", "q0-", "h", "h0", "h0>", "t", "t0",
                "t1;", "t1000", "r;", "rr", "r;;r", "d8", "r;x", "r;d0x", "xd0",
                "x0", "xxr", "xx>0", "d8;d0", "dx;d0", "t1;".repeat(20), "r;".repeat(29) + "d"}) {
                Checks.write(c, text);
                Checks.dueThrow("live() of " + text, c, Checks.ARGUMENT, c::live);
                Checks.due("the buffer stays", c.clearBuffer(), text.length());
            }
            Checks.due("nothing is done", c.count(2) + c.count(8) + c.count(1), 9);
        });
    }

    private static void liveAsTheMethods() {
        Sentences.holds(14, "Does the orders in the buffer as die(), quarrel(), heir(), pass() and renew() do, one "
            + "after the other, up to the first one whose method would throw an exception, and clears the buffer.",
            () -> {
            eachOrder();
            eachThatWouldThrow();
            CapsuleKeepers c = Checks.sealed(8, 5, 2, 0);
            Checks.due("each after the one before", Checks.liveBy(c, "h0>1;d0;h1>2;d1;q6-7;q7-6;q7-5;t1;t998;r"), 10);
            Checks.due("what 2 owns after the renewal", c.keeperOf(2, 2), 4);
            Checks.due("pairs", c.count(7), 1);
            Checks.due("the day", c.count(2), 999);
            Checks.due("the buffer", c.clearBuffer(), 0);
            Checks.due("an order that would throw after a death", Checks.liveBy(c, "d2;d2;t1"), 1);
            Checks.due("those after it are left", c.count(2), 999);
            Checks.due("the buffer is clear all the same", c.clearBuffer(), 0);
            CapsuleKeepers late = Checks.sealed(1, 5, 1, 0);
            for (int i = 0; i < 100; i++) {
                late.pass(999);
            }
            Checks.due("up to the day 99999", Checks.liveBy(late, "t99;t1;t1"), 1);
            Checks.due("the day", late.count(2), 99999);
            Checks.due("none to go by", Checks.liveBy(late, "t1"), 0);
            Checks.due("but another order", Checks.liveBy(late, "r"), 1);
        });
    }

    private static void eachOrder() {
        for (String order : new String[] {"d0", "d7", "q0-7", "q7-0", "h0>7", "h7>0", "h7>1", "t1", "t999", "t10",
            "r"}) {
            CapsuleKeepers called = Checks.sealed(8, 5, 2, 0);
            CapsuleKeepers told = Checks.sealed(8, 5, 2, 0);
            int one = order.length() > 1 ? order.charAt(1) - '0' : 0;
            int other = order.length() > 3 ? order.charAt(3) - '0' : 0;
            switch (order.charAt(0)) {
                case 'd' -> called.die(one);
                case 'q' -> called.quarrel(one, other);
                case 'h' -> called.heir(one, other);
                case 't' -> called.pass(Integer.parseInt(order.substring(1)));
                default -> called.renew();
            }
            Checks.due(order, Checks.liveBy(told, order), 1);
            Checks.due("the state by " + order, told.digest(), called.digest());
        }
    }

    private static void eachThatWouldThrow() {
        for (String order : new String[] {"d3", "d7", "d2", "q0-0", "q0-3", "q3-0", "q3-3", "h0>0", "h0>3", "h3>0",
            "h2>0", "h0>2", "h2>2", "r"}) {
            CapsuleKeepers c = Checks.withKeepers(3);
            c.die(2);
            long before = c.digest();
            Checks.due(order, Checks.liveBy(c, order), 0);
            c.undo();
            Checks.due("the state by " + order, c.digest(), before);
        }
        CapsuleKeepers open = Checks.sealed(1, 5, 1, 0);
        open.open(1);
        Checks.due("r of an open one", Checks.liveBy(open, "r"), 0);
        CapsuleKeepers few = Checks.sealed(2, 5, 2, 0);
        Checks.due("r by too few", Checks.liveBy(few, "r;d0;r;t1"), 2);
        Checks.due("dealings", few.count(8), 2);
    }

    private static void undo() {
        Sentences.holds(15, "Restores the latest saved state, and drops it.", () -> {
            CapsuleKeepers c = new CapsuleKeepers();
            c.pass(1);
            c.pass(10);
            c.undo();
            Checks.due("the latest", c.count(2), 1);
            c.undo();
            Checks.due("the one before", c.count(2), 0);
            c.pass(100);
            c.undo();
            Checks.due("not the dropped ones", c.count(2), 0);
            Checks.due("all are dropped", c.count(11), 0);
            CapsuleKeepers full = Checks.withKeepers(8);
            full.seal(250, 8, 1);
            full.undo();
            full.seal(1, 7, 0);
            Checks.due("six again", full.count(11), 6);
            full.undo();
            Checks.due("no capsule", full.count(3), 0);
            full.undo();
            Checks.due("seven keepers", full.count(0), 7);
        });
        Sentences.holds(15, "Returns how many saved states are left.", () -> {
            CapsuleKeepers c = Checks.withKeepers(1);
            Checks.due("one of one", c.undo(), 0);
            c.keeper();
            Checks.saveSix(c);
            for (int left = 5; left >= 0; left--) {
                Checks.due("of six", c.undo(), left);
            }
            Checks.due("the keeper is older than six states", c.count(0), 1);
        });
        Sentences.holds(15, "Throws `IllegalStateException` if there is none", () -> {
            CapsuleKeepers c = new CapsuleKeepers();
            Checks.dueThrow("new", c, Checks.STATE, c::undo);
            Checks.write(c, "d0");
            Checks.dueThrow("after append()", c, Checks.STATE, c::undo);
            c.clearBuffer();
            Checks.dueThrow("after clearBuffer()", c, Checks.STATE, c::undo);
            c.keeper();
            c.undo();
            Checks.dueThrow("after the last", c, Checks.STATE, c::undo);
        });
    }
}
