import java.math.BigInteger;

/** The document's DRAW over whole numbers, so that it shares no arithmetic with the class. */
final class Draws {
    private static final BigInteger ROOM = BigInteger.ONE.shiftLeft(64);

    private Draws() {
    }

    static int modulo(long seed, int stream, int divisor) {
        BigInteger z = BigInteger.valueOf(seed)
                .add(BigInteger.valueOf(stream).add(BigInteger.ONE).multiply(hex("9E3779B97F4A7C15"))).mod(ROOM);
        z = z.xor(z.shiftRight(30)).multiply(hex("BF58476D1CE4E5B9")).mod(ROOM);
        z = z.xor(z.shiftRight(27)).multiply(hex("94D049BB133111EB")).mod(ROOM);
        z = z.xor(z.shiftRight(31));
        return z.mod(BigInteger.valueOf(divisor)).intValueExact();
    }

    private static BigInteger hex(String digits) {
        return new BigInteger(digits, 16);
    }
}
