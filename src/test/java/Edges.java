import java.util.function.IntUnaryOperator;

/** Asks a call with the last numbers that are allowed on both sides, and with the first that are not. */
final class Edges {
    /** The farthest ints, and those that would be taken for small ones if bits were cut off. */
    private static final int[] FAR = {Integer.MIN_VALUE, Integer.MIN_VALUE + 1, -65536, -256, 256, 65536,
        Integer.MAX_VALUE - 1, Integer.MAX_VALUE};
    private static final int SMALL = 20;

    private Edges() {
    }

    /** Each number least .. most is answered as wanted, all others are BAD. */
    static void range(String sentence, int least, int most, IntUnaryOperator call, IntUnaryOperator want) {
        for (int number = least; number <= most; number = next(number, least, most)) {
            Due.same(sentence + ": " + number, call.applyAsInt(number), want.applyAsInt(number));
        }
        outside(sentence, least, most, call);
    }

    /** As range(), where NONE is allowed too, though it is not within the range. */
    static void rangeOrNone(String sentence, int least, int most, IntUnaryOperator call, IntUnaryOperator want) {
        range(sentence, least, most, n -> n == ConstantKinds.NONE ? ConstantKinds.BAD : call.applyAsInt(n), want);
        Due.same(sentence + ": NONE", call.applyAsInt(ConstantKinds.NONE), want.applyAsInt(ConstantKinds.NONE));
        Due.same(sentence + ": above NONE", call.applyAsInt(-2), ConstantKinds.BAD);
        Due.same(sentence + ": below NONE", call.applyAsInt(-4), ConstantKinds.BAD);
    }

    /** There is no number at all that is allowed. */
    static void none(String sentence, IntUnaryOperator call) {
        outside(sentence, 0, -1, call);
        Due.same(sentence + ": 1", call.applyAsInt(1), ConstantKinds.BAD);
    }

    private static void outside(String sentence, int least, int most, IntUnaryOperator call) {
        int[] near = {least - 1, most + 1, least - 2, most + 2, -1, -2, -3, -4};
        for (int number : near) {
            refused(sentence, number, least, most, call);
        }
        for (int number : FAR) {
            refused(sentence, number, least, most, call);
            refused(sentence, number + least, least, most, call);
        }
    }

    private static void refused(String sentence, int number, int least, int most, IntUnaryOperator call) {
        if (number < least || number > most) {
            Due.same(sentence + ": " + number, call.applyAsInt(number), ConstantKinds.BAD);
        }
    }

    /** A wide range is asked for at its two ends, and next to them. */
    private static int next(int number, int least, int most) {
        return most - least > SMALL && number == least + 1 ? most - 1 : number + 1;
    }
}
