import java.math.BigInteger;

/** CHANCE as the document tells it, in whole numbers without wrap-around. */
final class Numbers {
    private static final BigInteger FACTOR = new BigInteger("6364136223846793005");
    private static final BigInteger SUMMAND = new BigInteger("1442695040888963407");
    private static final BigInteger BITS_64 = BigInteger.ONE.shiftLeft(64);

    private BigInteger x;

    Numbers(int seed) {
        x = BigInteger.valueOf(seed).mod(BITS_64);
    }

    /** The number below n that comes when so many were drawn before. */
    static int after(int drawn, int seed, int n) {
        Numbers numbers = new Numbers(seed);
        numbers.skip(drawn);
        return numbers.below(n);
    }

    int below(int n) {
        x = FACTOR.multiply(x).add(SUMMAND).mod(BITS_64);
        return x.shiftRight(33).mod(BigInteger.valueOf(n)).intValueExact();
    }

    void skip(int count) {
        for (int i = 0; i < count; i++) {
            below(1);
        }
    }
}
