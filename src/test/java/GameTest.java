/** Promises 5 to 10: count, sets, set, plans, tell and good. */
public final class GameTest {
    private static final Checks CHECKS = new Checks();
    private static final String TEXT = "?(1/3:A7(B1([3],[1],A12(A0([1]),[2])),B2([2],[0])),"
            + "2/3:A9999(B1([-1],[4],[5]),B2([1],[1/2]),?(1:B0003([7]))))";

    public static void main(String[] args) {
        count();
        sets();
        set();
        plans();
        tellThrows();
        tellKeeps();
        good();
        CHECKS.finish();
    }

    private static void count() {
        HiddenMoves x = Checks.game(TEXT);
        CHECKS.dueAll("count", new int[] {x.count(0), x.count(1), x.count(2), x.count(3)}, 23, 12, 2, 9);
        CHECKS.due("count -1", x.count(-1), -1);
        CHECKS.due("count 4", x.count(4), -1);
        CHECKS.due("count largest", x.count(Integer.MAX_VALUE), -1);
        CHECKS.due("count least", x.count(Integer.MIN_VALUE), -1);
        HiddenMoves end = Checks.game("[0]");
        CHECKS.dueAll("one end", new int[] {end.count(0), end.count(1), end.count(2), end.count(3)}, 1, 1, 0, 0);
        Checks.read(end, "A1([1],[2])");
        CHECKS.dueAll("read again", new int[] {end.count(0), end.count(1), end.count(2), end.count(3)}, 3, 2, 0, 1);
    }

    private static void sets() {
        HiddenMoves x = Checks.game(TEXT);
        CHECKS.dueAll("sets", new int[] {x.sets(0), x.sets(1), x.sets(2), x.sets(3), x.sets(-1)}, -1, 4, 3, -1, -1);
        HiddenMoves end = Checks.game("[0]");
        CHECKS.dueAll("no sets", new int[] {end.sets(1), end.sets(2), end.sets(3)}, 0, 0, -1);
        HiddenMoves one = Checks.game("B3(A7([1]),A07([2]),A007([3]),A0007([4]))");
        CHECKS.dueAll("by value", new int[] {one.sets(1), one.sets(2)}, 1, 1);
    }

    private static int[] all(HiddenMoves x, int player, int what) {
        int[] answers = new int[6];
        for (int i = 0; i < 6; i++) {
            answers[i] = x.set(player, i - 1, what);
        }
        return answers;
    }

    private static void set() {
        HiddenMoves x = Checks.game(TEXT);
        CHECKS.dueAll("moves of A", all(x, 1, 0), -1, 2, 2, 1, 3, -1);
        CHECKS.dueAll("moves of B", all(x, 2, 0), -1, 3, 2, 1, -1, -1);
        CHECKS.dueAll("numbers of A", all(x, 1, 1), -1, 7, 12, 0, 9999, -1);
        CHECKS.dueAll("numbers of B", all(x, 2, 1), -1, 1, 2, 3, -1, -1);
        CHECKS.dueAll("own moves of A", all(x, 1, 2), -1, 0, 1, 2, 0, -1);
        CHECKS.dueAll("own moves of B", all(x, 2, 2), -1, 0, 0, 0, -1, -1);
        for (int what : new int[] {-1, 3, 4, Integer.MIN_VALUE, Integer.MAX_VALUE}) {
            CHECKS.due("no such what " + what, x.set(1, 0, what), -1);
        }
        for (int player : new int[] {-1, 0, 3, Integer.MIN_VALUE, Integer.MAX_VALUE}) {
            CHECKS.due("no such player " + player, x.set(player, 0, 0), -1);
        }
        CHECKS.due("set largest", x.set(1, Integer.MAX_VALUE, 0), -1);
        CHECKS.due("set least", x.set(1, Integer.MIN_VALUE, 0), -1);
    }

    private static void plans() {
        HiddenMoves x = Checks.game(TEXT);
        CHECKS.dueAll("plans", new int[] {x.plans(0), x.plans(1), x.plans(2), x.plans(3)}, -1, 12, 6, -1);
        HiddenMoves end = Checks.game("[0]");
        CHECKS.dueAll("one plan", new int[] {end.plans(1), end.plans(2), end.plans(0)}, 1, 1, -1);
        HiddenMoves most = Checks.game("A1(A2(A3([1],[2],[3],[4]),[1],[2],[3]),[1],[2],[3])");
        CHECKS.dueAll("most plans", new int[] {most.plans(1), most.plans(2)}, 64, 1);
    }

    private static void tellThrows() {
        HiddenMoves x = Checks.game("A1(B1([1],[2],[3]),B1([4],[5],[6]))");
        String index = "IndexOutOfBoundsException";
        String argument = "IllegalArgumentException";
        for (int player : new int[] {-1, 0, 3, Integer.MAX_VALUE, Integer.MIN_VALUE}) {
            CHECKS.dueThrow("tell player " + player, () -> x.tell(player, 0, 0, 1, 1), index);
        }
        for (int set : new int[] {-1, 1, 10, Integer.MAX_VALUE, Integer.MIN_VALUE}) {
            CHECKS.dueThrow("tell set " + set, () -> x.tell(1, set, 0, 1, 1), index);
        }
        for (int move : new int[] {-1, 2, 4, Integer.MAX_VALUE, Integer.MIN_VALUE}) {
            CHECKS.dueThrow("tell move " + move, () -> x.tell(1, 0, move, 1, 1), index);
        }
        CHECKS.dueThrow("B has a third move", () -> x.tell(2, 0, 2, 1, 1), "nothing");
        x.tell(2, 0, 2, 0, 1);
        for (int bottom : new int[] {0, -1, 10000, Integer.MAX_VALUE, Integer.MIN_VALUE}) {
            CHECKS.dueThrow("tell bottom " + bottom, () -> x.tell(1, 0, 0, 0, bottom), argument);
        }
        for (int top : new int[] {-1, 6, Integer.MAX_VALUE, Integer.MIN_VALUE}) {
            CHECKS.dueThrow("tell top " + top, () -> x.tell(1, 0, 0, top, 5), argument);
        }
        CHECKS.dueThrow("both wrong", () -> x.tell(1, 0, 2, 1, 0), index);
        CHECKS.due("nothing changed for A", x.good(1), 1);
        CHECKS.due("nothing changed for B", x.good(2), 1);
        CHECKS.dueThrow("9999", () -> x.tell(1, 0, 0, 9999, 9999), "nothing");
        CHECKS.dueThrow("0", () -> x.tell(1, 0, 1, 0, 9999), "nothing");
        CHECKS.due("still good", x.good(1), 1);
    }

    private static void tellKeeps() {
        HiddenMoves x = Checks.game("A1(B1([1],[2]),B1([4],[3]))");
        x.solve();
        x.expect();
        x.judge(1);
        x.judge(2);
        x.tell(1, 0, 0, 0, 1);
        x.tell(1, 0, 1, 1, 1);
        x.tell(2, 0, 0, 0, 1);
        x.tell(2, 0, 1, 1, 1);
        CHECKS.due("value stays", Checks.printed(x, 0), "3");
        CHECKS.due("expected stays", Checks.printed(x, 1), "1");
        CHECKS.due("judged A stays", Checks.printed(x, 2), "1");
        CHECKS.due("judged B stays", Checks.printed(x, 3), "4");
        CHECKS.due("reply to A stays", x.reply(1, 0), 0);
        CHECKS.due("reply to B stays", x.reply(2, 0), 1);
        CHECKS.due("check stays", x.check(), 1);
        x.expect();
        x.judge(1);
        CHECKS.due("expected anew", Checks.printed(x, 1), "3");
        CHECKS.due("judged anew", Checks.printed(x, 2), "3");
        CHECKS.due("reply anew", x.reply(1, 0), 1);
        CHECKS.due("the other reply stays", x.reply(2, 0), 1);
    }

    private static void good() {
        HiddenMoves x = Checks.game("A1(A2([1],[2],[3],[4]),[5])");
        CHECKS.dueAll("at first", new int[] {x.good(0), x.good(1), x.good(2), x.good(3)}, -1, 1, 1, -1);
        x.tell(1, 1, 0, 1, 6);
        CHECKS.due("less than 1", x.good(1), 0);
        CHECKS.due("the other one", x.good(2), 1);
        x.tell(1, 1, 1, 1, 3);
        x.tell(1, 1, 2, 2, 8);
        x.tell(1, 1, 3, 3, 12);
        CHECKS.due("1 together", x.good(1), 1);
        x.tell(1, 1, 3, 2501, 9999);
        CHECKS.due("a bit more", x.good(1), 0);
        x.tell(1, 1, 0, 9998, 9999);
        x.tell(1, 1, 1, 9996, 9997);
        x.tell(1, 1, 2, 9994, 9995);
        x.tell(1, 1, 3, 9990, 9991);
        CHECKS.due("with large bottoms", x.good(1), 0);
        x.tell(1, 1, 0, 1, 1);
        x.tell(1, 1, 1, 1, 1);
        x.tell(1, 1, 2, 0, 1);
        x.tell(1, 1, 3, 0, 1);
        CHECKS.due("2 together", x.good(1), 0);
        x.tell(1, 1, 1, 0, 7);
        CHECKS.due("back again", x.good(1), 1);
        x.tell(1, 0, 0, 0, 1);
        CHECKS.due("0 together in a set", x.good(1), 0);
        HiddenMoves end = Checks.game("[1]");
        CHECKS.dueAll("without sets", new int[] {end.good(1), end.good(2), end.good(0)}, 1, 1, -1);
    }
}
