import java.math.BigInteger;

/** The draws as the document tells them, in numbers that do not wrap by themselves. */
final class Drawn {
    private static final BigInteger FACTOR = new BigInteger("6364136223846793005");
    private static final BigInteger ADDEND = new BigInteger("1442695040888963407");
    private static final BigInteger WRAP = BigInteger.ONE.shiftLeft(64);

    private BigInteger s;

    Drawn(long seed) {
        s = BigInteger.valueOf(seed).mod(WRAP);
    }

    int mod(int count) {
        s = s.multiply(FACTOR).add(ADDEND).mod(WRAP);
        return s.shiftRight(33).mod(BigInteger.valueOf(count)).intValue();
    }
}
