import java.math.BigInteger;

/** Weights and velocities as whole numbers, which put takes in two parts and limb answers in three. */
final class Numbers {
    private Numbers() {
    }

    /** The first number that is too great for p. */
    static BigInteger limit(int p) {
        return BigInteger.ONE.shiftLeft(15 + p);
    }

    /** The last number that is not. */
    static BigInteger most(int p) {
        return limit(p).subtract(BigInteger.ONE);
    }

    /** Where low is not below 0. */
    static BigInteger of(int high, long low) {
        return BigInteger.valueOf(high).shiftLeft(64).add(BigInteger.valueOf(low));
    }

    static void put(WeightFile x, int which, int i, BigInteger v) {
        x.put(which, i, v.shiftRight(64).intValueExact(), v.longValue());
    }

    static BigInteger at(WeightFile x, int which, int i) {
        BigInteger v = BigInteger.valueOf(x.limb(which, i, 2));
        for (int k = 1; k >= 0; k--) {
            v = v.shiftLeft(32).add(BigInteger.valueOf(x.limb(which, i, k) & 0xFFFFFFFFL));
        }
        return v;
    }
}
