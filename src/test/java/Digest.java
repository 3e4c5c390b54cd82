/** The hash of promise 27, from the answers of the other calls. */
final class Digest {
    private Digest() {
    }

    static long of(CapsuleKeepers c, String buffer) {
        long[] hash = {3019};
        for (int what = 0; what <= 11; what++) {
            put(hash, c.count(what));
        }
        for (int keeper = 0; keeper < c.count(0); keeper++) {
            for (int what = 0; what <= 4; what++) {
                put(hash, c.keeperOf(keeper, what));
            }
        }
        for (int share = 0; share <= 7; share++) {
            for (int what = 0; what <= 2; what++) {
                put(hash, c.share(share, what));
            }
        }
        for (int shares : new int[] {7, 14, 56, 255}) {
            put(hash, c.told(shares));
        }
        for (int shares : new int[] {0, 3, 7, 24, 255}) {
            put(hash, c.possible(shares));
        }
        put(hash, c.why((1 << c.count(0)) - 1));
        put(hash, c.smallest(0));
        put(hash, c.smallest(1));
        put(hash, c.groups());
        put(hash, c.needed());
        put(hash, c.peace(false));
        put(hash, c.peace(true));
        put(hash, Double.doubleToLongBits(c.firstShare()));
        put(hash, buffer.length());
        for (int i = 0; i < buffer.length(); i++) {
            put(hash, buffer.charAt(i));
        }
        return hash[0];
    }

    private static void put(long[] hash, long value) {
        hash[0] = 31 * hash[0] + value;
    }
}
