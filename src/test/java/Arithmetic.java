import java.math.BigInteger;

/** The field and the draws once more, in numbers that have no bound. */
final class Arithmetic {
    private static final BigInteger MODULUS = BigInteger.valueOf(251);

    private Arithmetic() {
    }

    /** The number x after some draws from a new object on. */
    static int xAfter(int draws) {
        long x = 1;
        for (int i = 0; i < draws; i++) {
            x = (171 * x + 11213) % 53125;
        }
        return (int) x;
    }

    /** The value of a share that was dealt when so many draws had been made before. */
    static int dealt(int share, int key, int quorum, int drawsBefore) {
        BigInteger sum = BigInteger.valueOf(key);
        for (int power = 1; power < quorum; power++) {
            int coefficient = xAfter(drawsBefore + power) % 251;
            sum = sum.add(BigInteger.valueOf(share + 1).pow(power).multiply(BigInteger.valueOf(coefficient)));
        }
        return sum.mod(MODULUS).intValue();
    }

    /** The value at 0 of the line through two shares. */
    static int lineAtZero(int one, int valueOfOne, int other, int valueOfOther) {
        BigInteger at = BigInteger.valueOf(one + 1);
        BigInteger till = BigInteger.valueOf(other + 1);
        BigInteger top = BigInteger.valueOf(valueOfOne).multiply(till)
            .subtract(BigInteger.valueOf(valueOfOther).multiply(at));
        return top.multiply(till.subtract(at).modInverse(MODULUS)).mod(MODULUS).intValue();
    }
}
