import java.math.BigInteger;

/** The digest of an object to which nothing has happened, worked out without any number that wraps around. */
final class AllZero {
    private AllZero() {
    }

    static long digest(int delayLength) {
        BigInteger d = BigInteger.valueOf(58051);
        d = fold(d, 0, 1 + 8 + 3 + 3);
        d = fold(d, -1, 1);
        d = fold(d, 0, 1);
        for (int voice = 0; voice < 4; voice++) {
            d = fold(d, 0, 9);
            d = fold(d, -1, 1);
        }
        for (int step = 0; step < 3 * 8; step++) {
            d = fold(d, -1, 1);
            d = fold(d, 0, 2);
        }
        return fold(d, 0, delayLength).longValue();
    }

    private static BigInteger fold(BigInteger start, int number, int times) {
        BigInteger d = start;
        for (int i = 0; i < times; i++) {
            d = d.multiply(BigInteger.valueOf(31)).add(BigInteger.valueOf(number));
        }
        return d;
    }
}
