import java.math.BigInteger;
import java.util.Arrays;

/** Promise 18 from the other side: if what was found did not hold, check() would tell 0. */
public final class CheckTest {
    private static final Checks CHECKS = new Checks();

    public static void main(String[] args) {
        CHECKS.due("untouched", solved().check(), 1);
        wrongValue();
        for (int player = 0; player < 2; player++) {
            worseMix(player);
            noMix(player);
            noMixOfZeros(player);
            noMixBehind(player);
        }
        CHECKS.finish();
    }

    /** A's best mix is 1/4 and 3/4, B's is 1/2 and 1/2; the value is 3/2. */
    private static HiddenMoves solved() {
        HiddenMoves x = Checks.game("A1(B1([3],[0]),B1([1],[2]))");
        x.solve();
        return x;
    }

    private static Object part(HiddenMoves x, int player, int line) {
        Object mix = ((Object[]) Inside.get(x, "found"))[player];
        return ((Object[]) Inside.get(mix, "parts"))[line];
    }

    private static void put(Object big, long value) {
        Inside.call(big, "put", value);
        CHECKS.due("put", BigInteger.valueOf(value).signum(), (int) Inside.call(big, "sign"));
    }

    private static void wrongValue() {
        for (int top : new int[] {2, 4, -3}) {
            HiddenMoves x = solved();
            put(Inside.get(((Object[]) Inside.get(x, "results"))[0], "top"), top);
            CHECKS.due("a value of " + top + "/2", x.check(), 0);
        }
    }

    private static void worseMix(int player) {
        HiddenMoves x = solved();
        put(part(x, player, 0), 8);
        put(part(x, player, 1), player == 0 ? 2 : 4);
        put(part(x, player, 2), player == 0 ? 6 : 4);
        CHECKS.due("the same mix", x.check(), 1);
        put(part(x, player, 1), 3);
        put(part(x, player, 2), 5);
        CHECKS.due("a worse mix", x.check(), 0);
    }

    private static void noMix(int player) {
        HiddenMoves x = solved();
        put(part(x, player, 0), 8);
        put(part(x, player, 1), player == 0 ? 4 : 2);
        put(part(x, player, 2), player == 0 ? 12 : 2);
        CHECKS.due("no mix", x.check(), 0);
    }

    /** Where all ends are 0 anything would get the value: so it shows whether it is looked at as a mix at all. */
    private static void noMixOfZeros(int player) {
        int[][] wrong = {{1, 2, -1}, {1, 1, 1}, {2, 1, 0}, {1, 0, 0}, {0, 0, 0}, {-1, -1, 0}};
        for (int[] parts : wrong) {
            HiddenMoves x = Checks.game("A1(B1([0],[0]),B1([0],[0]))");
            x.solve();
            CHECKS.due("as found", x.check(), 1);
            for (int i = 0; i < 3; i++) {
                put(part(x, player, i), parts[i]);
            }
            CHECKS.due("parts " + Arrays.toString(parts), x.check(), 0);
        }
    }

    /** The second set is behind a move of the first, so its parts are that move's part together. */
    private static void noMixBehind(int player) {
        String text = player == 0 ? "A1([0],A2([0],[0]))" : "B1([0],B2([0],[0]))";
        int[][] parts = {{4, 1, 3, 2, 1}, {4, 1, 3, 3, 1}, {4, 1, 3, 0, 2}, {4, 1, 3, 4, -1}, {4, 2, 3, 2, 1}};
        for (int i = 0; i < parts.length; i++) {
            HiddenMoves x = Checks.game(text);
            x.solve();
            for (int j = 0; j < 5; j++) {
                put(part(x, player, j), parts[i][j]);
            }
            CHECKS.due("parts behind a move " + Arrays.toString(parts[i]), x.check(), i == 0 ? 1 : 0);
        }
    }
}
