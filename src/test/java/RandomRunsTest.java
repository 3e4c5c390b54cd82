import java.util.function.IntSupplier;

/** Long runs of calls by a fixed row of numbers, each answer beside the one of Model. */
final class RandomRunsTest {
    private static final int RUNS = 800;
    // the document promises nothing about an object's 513th call and those after it
    private static final int MOST_CALLS = 512;
    private static final int CALLS_OF_LOOKS = 180;
    private static final int CALLS_OF_A_STEP = 110;
    private static final int STATE = -1001;
    private static final int ARGUMENT = -1002;
    private static final int INDEX = -1003;

    private static final String[] ORDERS = {"r", "t1", "t30", "t999", "t12", "q0-1", "q1-2", "q3-4", "q5-6", "q2-7",
        "h0>1", "h2>3", "h1>4", "h4>0", "h5>6", "d0", "d3", "d6", "q2-2", "h7>7"};
    private static final String SIGNS = "dqhtr;->0123456789xr;d1t9!~";

    private long seed;
    private CapsuleKeepers c;
    private Model m;
    private int run;
    private int step;
    private int calls;

    private RandomRunsTest(int run) {
        this.run = run;
        seed = 977L * run + 5;
        c = new CapsuleKeepers();
        m = new Model();
    }

    public static void main(String[] args) {
        for (int run = 0; run < RUNS; run++) {
            new RandomRunsTest(run).play();
        }
        Checks.finish("RandomRunsTest");
    }

    private int below(int bound) {
        seed = seed * 6364136223846793005L + 1442695040888963407L;
        return (int) ((seed >>> 33) % bound);
    }

    private void play() {
        int keepers = run % 3 == 0 ? 8 : below(9);
        for (int i = 0; i < keepers; i++) {
            same("keeper()", c::keeper, m::keeper);
        }
        while (calls + CALLS_OF_A_STEP + CALLS_OF_LOOKS <= MOST_CALLS) {
            step();
            step++;
            if (step % 4 == 0) {
                sameDigest();
                someLooks();
            }
        }
        looks();
        sameDigest();
        Checks.due("run " + run + ": calls within the promise", calls <= MOST_CALLS ? 1 : 0, 1);
    }

    private void sameDigest() {
        calls++;
        Checks.due("run " + run + ", step " + step + ": digest()", c.digest(), m.digest());
    }

    private static int answer(IntSupplier call) {
        try {
            return call.getAsInt();
        } catch (IllegalStateException e) {
            return STATE;
        } catch (IllegalArgumentException e) {
            return ARGUMENT;
        } catch (IndexOutOfBoundsException e) {
            return e.getClass() == IndexOutOfBoundsException.class ? INDEX : -1004;
        }
    }

    private void same(String call, IntSupplier got, IntSupplier want) {
        calls++;
        Checks.due("run " + run + ", step " + step + ": " + call, answer(got), answer(want));
    }

    private int odd(int bound) {
        return below(25) == 0 ? below(3 * bound) - bound : below(bound);
    }

    private int somebody() {
        return odd(Math.max(1, m.s.keepers.size()));
    }

    private int group() {
        int all = (1 << m.s.keepers.size()) - 1;
        return below(30) == 0 ? below(600) - 100 : below(256) & all;
    }

    private void step() {
        int a = somebody();
        int b = below(8) == 0 ? Model.NONE : somebody();
        switch (below(20)) {
            case 0, 1 -> same("keeper()", c::keeper, m::keeper);
            case 2 -> same("die(" + a + ")", () -> c.die(a), () -> m.die(a));
            case 3, 4, 5 -> same("heir(" + a + ", " + b + ")", () -> c.heir(a, b), () -> m.heir(a, b));
            case 6, 7 -> same("quarrel(" + a + ", " + b + ")", () -> c.quarrel(a, b), () -> m.quarrel(a, b));
            case 8 -> seal();
            case 9 -> same("renew()", c::renew, m::renew);
            case 10, 11 -> forge();
            case 12 -> pass();
            case 13, 14 -> open();
            case 15, 16 -> days();
            case 17 -> {
                if (run % 4 == 0) {
                    signs();
                }
            }
            default -> same("undo()", c::undo, m::undo);
        }
    }

    private void seal() {
        int key = odd(251);
        int quorum = odd(Math.max(1, m.s.living())) + 1;
        int date = below(3) == 0 ? odd(10000) : m.s.day > 9000 ? 9999 : m.s.day + below(20);
        same("seal(" + key + ", " + quorum + ", " + date + ")",
            () -> c.seal(key, quorum, date), () -> m.seal(key, quorum, date));
    }

    private void forge() {
        int share = odd(8);
        int value = odd(251);
        same("forge(" + share + ", " + value + ")", () -> c.forge(share, value), () -> m.forge(share, value));
    }

    private void pass() {
        int days = below(3) == 0 ? odd(1100) : below(30);
        same("pass(" + days + ")", () -> c.pass(days), () -> m.pass(days));
    }

    private void open() {
        int group = group();
        same("why(" + group + ")", () -> c.why(group), () -> m.why(group));
        same("open(" + group + ")", () -> c.open(group), () -> m.open(group));
    }

    private void add(int code) {
        same("append(" + code + ")", () -> c.append(code), () -> m.append(code));
    }

    private void days() {
        int orders = 1 + below(5);
        for (int i = 0; i < orders; i++) {
            String order = ORDERS[below(ORDERS.length)];
            for (int j = 0; j < order.length(); j++) {
                add(order.charAt(j));
            }
            if (i + 1 < orders) {
                add(';');
            }
        }
        same("firstError()", c::firstError, m::firstError);
        same("live()", c::live, m::live);
        if (below(2) == 0) {
            same("clearBuffer()", c::clearBuffer, m::clearBuffer);
        }
    }

    private void signs() {
        int most = below(64);
        for (int i = 0; i < most; i++) {
            add(below(40) == 0 ? below(140) - 5 : SIGNS.charAt(below(SIGNS.length())));
            if (i % 4 == 0) {
                same("firstError()", c::firstError, m::firstError);
            }
        }
        same("live()", c::live, m::live);
        same("clearBuffer()", c::clearBuffer, m::clearBuffer);
    }

    private void someLooks() {
        int shares = below(4) == 0 ? below(400) - 70 : below(256) & m.there();
        int group = group();
        same("told(" + shares + ")", () -> c.told(shares), () -> m.told(shares));
        same("possible(" + shares + ")", () -> c.possible(shares), () -> m.possible(shares));
        same("why(" + group + ")", () -> c.why(group), () -> m.why(group));
        same("smallest(1)", () -> c.smallest(1), () -> m.smallest(1));
        same("needed()", c::needed, m::needed);
        same("peace(true)", () -> c.peace(true), () -> m.peace(true));
    }

    private void looks() {
        for (int what = -1; what <= 12; what++) {
            int w = what;
            same("count(" + w + ")", () -> c.count(w), () -> m.count(w));
        }
        for (int keeper = -1; keeper <= 8; keeper++) {
            for (int what = -1; what <= 5; what++) {
                int k = keeper;
                int w = what;
                same("keeperOf(" + k + ", " + w + ")", () -> c.keeperOf(k, w), () -> m.keeperOf(k, w));
            }
        }
        for (int share = -1; share <= 8; share++) {
            for (int what = -1; what <= 3; what++) {
                int i = share;
                int w = what;
                same("share(" + i + ", " + w + ")", () -> c.share(i, w), () -> m.share(i, w));
            }
        }
        for (int i = 0; i < 12; i++) {
            int shares = below(10) == 0 ? below(400) - 70 : below(256) & m.there();
            same("told(" + shares + ")", () -> c.told(shares), () -> m.told(shares));
            same("possible(" + shares + ")", () -> c.possible(shares), () -> m.possible(shares));
        }
        whatWouldBe();
    }

    private void whatWouldBe() {
        for (int what = -1; what <= 2; what++) {
            int w = what;
            same("smallest(" + w + ")", () -> c.smallest(w), () -> m.smallest(w));
        }
        same("groups()", c::groups, m::groups);
        same("needed()", c::needed, m::needed);
        same("peace(false)", () -> c.peace(false), () -> m.peace(false));
        same("peace(true)", () -> c.peace(true), () -> m.peace(true));
        calls++;
        Checks.dueDouble("run " + run + ": firstShare()", c.firstShare(), m.firstShare());
    }
}
