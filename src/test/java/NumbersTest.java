import java.math.BigInteger;
import java.util.Random;

/** The whole numbers inside the class against those of the library: carries are too rare to be met by games. */
public final class NumbersTest {
    private static final Checks CHECKS = new Checks();
    private static final int ROOM = 32;
    private final Random random = new Random(7);

    public static void main(String[] args) {
        NumbersTest test = new NumbersTest();
        for (int i = 0; i < 20000; i++) {
            int words = 1 + test.random.nextInt(12);
            BigInteger a = test.number(words);
            BigInteger b = test.number(words);
            test.lookAtSums(a, b);
            test.lookAtProducts(a, b);
            test.lookAtSmall(a);
            test.lookAtRatio(a, b, test.number(4));
        }
        CHECKS.finish();
    }

    /** Digits at the edges are met more often than others. */
    private BigInteger number(int words) {
        long[] edges = {0L, 0xFFFFFFFFL, 0x80000000L, 1L};
        boolean plain = random.nextInt(4) == 0;
        BigInteger number = BigInteger.ZERO;
        for (int i = random.nextInt(words + 1); i > 0; i--) {
            int edge = plain ? 4 : random.nextInt(6);
            long digit = edge < 4 ? edges[edge] : random.nextInt() & 0xFFFFFFFFL;
            number = number.shiftLeft(32).or(BigInteger.valueOf(digit));
        }
        number = number.shiftRight(random.nextInt(32));
        return random.nextBoolean() ? number.negate() : number;
    }

    private Object big(BigInteger number, int room) {
        Object big = Inside.make("Big", room);
        int[] digits = (int[]) Inside.get(big, "digits");
        for (int i = 0; i < room; i++) {
            digits[i] = random.nextInt();
        }
        int length = 0;
        for (BigInteger rest = number.abs(); rest.signum() != 0; rest = rest.shiftRight(32)) {
            digits[length] = rest.intValue();
            length++;
        }
        Inside.put(big, "length", length);
        Inside.put(big, "below", number.signum() < 0);
        return big;
    }

    private static String print(Object big) {
        int[] digits = (int[]) Inside.get(big, "digits");
        int length = (int) Inside.get(big, "length");
        boolean below = (boolean) Inside.get(big, "below");
        if (length > 0 && digits[length - 1] == 0 || length == 0 && below) {
            return "not trimmed";
        }
        BigInteger number = BigInteger.ZERO;
        for (int i = length - 1; i >= 0; i--) {
            number = number.shiftLeft(32).or(BigInteger.valueOf(digits[i] & 0xFFFFFFFFL));
        }
        return (below ? number.negate() : number).toString();
    }

    private void lookAtSums(BigInteger a, BigInteger b) {
        Object sum = big(a, ROOM);
        Inside.call(sum, "plus", big(b, 2 * ROOM));
        CHECKS.due("sum", print(sum), a.add(b).toString());
        Object twice = big(a, ROOM);
        Inside.call(twice, "plus", twice);
        CHECKS.due("twice", print(twice), a.add(a).toString());
        CHECKS.due("order", (int) Inside.call(big(a, ROOM), "order", big(b, ROOM)), a.compareTo(b));
        Object negated = big(a, ROOM);
        Inside.call(negated, "negate");
        CHECKS.due("negated", print(negated), a.negate().toString());
    }

    private void lookAtProducts(BigInteger a, BigInteger b) {
        Object product = big(b, 2 * ROOM);
        Inside.call(product, "putProduct", big(a, ROOM), big(b, ROOM));
        CHECKS.due("product", print(product), a.multiply(b).toString());
        if (b.signum() != 0) {
            Object divider = Inside.make("Divider");
            Inside.call(divider, "prepare", big(b.abs(), ROOM));
            Object quotient = big(a.multiply(b.abs()), 2 * ROOM);
            Inside.call(divider, "divide", quotient);
            CHECKS.due("quotient", print(quotient), a.toString());
        }
    }

    private void lookAtSmall(BigInteger a) {
        long factor = random.nextInt() & 0xFFFFFFFFL;
        Object scaled = big(a, ROOM);
        Inside.call(scaled, "scale", factor);
        CHECKS.due("scaled", print(scaled), a.multiply(BigInteger.valueOf(factor)).toString());
        long value = random.nextLong() >> random.nextInt(64);
        Inside.call(scaled, "put", value);
        CHECKS.due("put", print(scaled), Long.toString(value));
        int bits = random.nextInt(100);
        Object shifted = big(a.abs(), ROOM);
        Inside.call(shifted, "shiftDown", bits);
        CHECKS.due("shifted", print(shifted), a.abs().shiftRight(bits).toString());
    }

    private void lookAtRatio(BigInteger a, BigInteger b, BigInteger shared) {
        if (b.signum() == 0 || shared.signum() == 0) {
            return;
        }
        int common = 1 + random.nextInt(999999999);
        BigInteger top = a.multiply(shared);
        BigInteger bottom = b.multiply(shared).abs();
        Object ratio = Inside.make("Ratio");
        Inside.call(ratio, "put", big(top, 2 * ROOM), big(bottom, ROOM), (long) common);
        Reference.Q want = Reference.Q.of(top, bottom.multiply(BigInteger.valueOf(common)));
        char[] there = new char[650];
        int length = (int) Inside.call(ratio, "write", there);
        CHECKS.due("ratio", new String(there, 0, length), want.print());
        Object next = Inside.make("Ratio");
        Inside.call(next, "put", big(top, 2 * ROOM), big(bottom, ROOM), common + 1L);
        CHECKS.due("order of ratios", (int) Inside.call(ratio, "order", next), top.signum());
    }
}
