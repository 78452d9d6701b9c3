/** Promises 11 to 18: solve, expect, judge, reply, print, character, compare and check. */
public final class WorkTest {
    private static final Checks CHECKS = new Checks();

    public static void main(String[] args) {
        values();
        expected();
        expectThrows();
        judged();
        judgeThrows();
        replies();
        print();
        character();
        compare();
        check();
        CHECKS.finish();
    }

    private static void value(String text, String want) {
        HiddenMoves x = Checks.game(text);
        x.solve();
        CHECKS.due("value of " + text, Checks.printed(x, 0), want);
        CHECKS.due("check of " + text, x.check(), 1);
        x.solve();
        CHECKS.due("value again of " + text, Checks.printed(x, 0), want);
    }

    private static void values() {
        value("[5/3]", "5/3");
        value("[-10/4]", "-5/2");
        value("[-0/7]", "0");
        value("?(1/3:[1],2/3:[-2])", "-1");
        value("?(1/2:[1/3],1/2:[-1/3])", "0");
        value("A1([1],[3],[2])", "3");
        value("B1([1],[3],[2])", "1");
        value("B1([-1],[-3],[-2])", "-3");
        value("A1(B1([1],[-1]),B1([-1],[1]))", "0");
        value("B1(A1([1],[-1]),A1([-1],[1]))", "0");
        value("A1(B1([1],[4]),B2([3],[2]))", "2");
        value("A1(B1([3],[0]),B1([1],[2]))", "3/2");
        value("A1(B1([0],[5],[-4]),B1([-5],[0],[6]),B1([4],[-6],[0]))", "0");
        value("A1(B1([1],[0],[0],[0]),B1([0],[1/2],[0],[0]),B1([0],[0],[1/3],[0]),B1([0],[0],[0],[1/7]))", "1/13");
        value("A1(B1([-1],[0]),B1([0],[-1/9999]))", "-1/10000");
        value("?(1/2:A1([1],B1([2],[-2])),1/2:A2([-1],B1([-2],[2])))", "0");
        value("A1(A2(A3([1],[2]),[0]),A4(A5([-7],[-8]),[3]))", "3");
        value("A1([0],A2([1],A3([-5],[2])))", "2");
        value("B1([0],B2([1],B3([-5],[2])))", "-5");
        value("B1(?(1/2:B2([1],[2]),1/2:B3([-3],[4])),[5])", "-1");
        value("A1(?(1/2:A2([1],[2]),1/2:A3([-3],[4])),[5/2])", "3");
        value("B1(A1(B2([1],[3]),B3([0],[5])),A1(B4([2],[7]),B5([4],[0])))", "1");
        value("B1(A1(B2([1],[3]),B3([4],[5])),A1(B4([2],[7]),B5([4],[0])))", "8/5");
        value("B1(?(1/2:B2(A1([1],[0]),A1([0],[1])),1/2:B3(A2([-1],[0]),A2([0],[-1]))),?(1/3:B4([9],[8]),2/3:[-6]))",
            "-4/3");
        value("A1(?(1/2:A2(B1([-1],[0]),B1([0],[-1])),1/2:A3(B2([1],[0]),B2([0],[1]))),?(1/3:A4([-9],[-8]),2/3:[6]))",
            "4/3");
        // Poker with three cards, one for each player (Kuhn 1950: it is worth -1/18).
        value("?(1/6:A1(B11(A2([-1],[-2]),[-1]),B12([-2],[1])),1/6:A1(B21(A2([-1],[-2]),[-1]),B22([-2],[1])),"
            + "1/6:A3(B31(A4([-1],[2]),[1]),B32([2],[1])),1/6:A3(B21(A4([-1],[-2]),[-1]),B22([-2],[1])),"
            + "1/6:A5(B31(A6([-1],[2]),[1]),B32([2],[1])),1/6:A5(B11(A6([-1],[2]),[1]),B12([2],[1])))", "-1/18");
    }

    private static void expected() {
        HiddenMoves x = Checks.game("A1(B1([3],[0]),B1([1],[2]))");
        x.expect();
        CHECKS.due("moves 0", Checks.printed(x, 1), "3");
        x.tell(1, 0, 0, 1, 3);
        x.tell(1, 0, 1, 2, 3);
        x.expect();
        CHECKS.due("A mixes", Checks.printed(x, 1), "5/3");
        x.tell(2, 0, 0, 2, 5);
        x.tell(2, 0, 1, 6, 10);
        x.expect();
        CHECKS.due("both mix", Checks.printed(x, 1), "22/15");
        CHECKS.due("nothing else is worked out", Checks.printed(x, 0) + Checks.printed(x, 2), "nonenone");
        HiddenMoves deep = Checks.game("A1([1],?(1/4:B1([0],A2([-3],[8])),3/4:B2(A3([4],[1/7]),[2])))");
        deep.tell(1, 0, 0, 1, 9999);
        deep.tell(1, 0, 1, 9998, 9999);
        deep.tell(1, 1, 0, 1, 2);
        deep.tell(1, 1, 1, 1, 2);
        deep.tell(1, 2, 0, 1, 9998);
        deep.tell(1, 2, 1, 9997, 9998);
        deep.tell(2, 0, 0, 1, 3);
        deep.tell(2, 0, 1, 2, 3);
        deep.tell(2, 1, 0, 1, 5);
        deep.tell(2, 1, 1, 4, 5);
        deep.expect();
        // 1/9999 + 9998/9999 (1/4 * 2/3 * 5/2 + 3/4 (1/5 (4/9998 + 9997/7/9998) + 4/5 * 2))
        CHECKS.due("a long sum", Checks.printed(x, 1) + " " + Checks.printed(deep, 1), "22/15 6879287/4199580");
        HiddenMoves end = Checks.game("[-7/2]");
        end.expect();
        CHECKS.due("an end", Checks.printed(end, 1), "-7/2");
    }

    private static void expectThrows() {
        HiddenMoves x = Checks.game("A1(B1([3],[0]),B1([1],[2]))");
        x.expect();
        x.tell(2, 0, 1, 1, 2);
        CHECKS.dueThrow("B's way is not good", x::expect, "IllegalStateException");
        CHECKS.due("nothing changed", Checks.printed(x, 1), "3");
        x.tell(2, 0, 0, 1, 2);
        x.tell(1, 0, 0, 1, 2);
        CHECKS.dueThrow("A's way is not good", x::expect, "IllegalStateException");
        x.tell(1, 0, 1, 1, 2);
        CHECKS.dueThrow("both are", x::expect, "nothing");
        CHECKS.due("now", Checks.printed(x, 1), "3/2");
    }

    private static void judged() {
        HiddenMoves x = Checks.game("A1(B1([3],[0]),B1([1],[2]))");
        x.judge(1);
        CHECKS.due("B takes the least", Checks.printed(x, 2), "0");
        CHECKS.due("B is not judged", x.print(3), -1);
        x.judge(2);
        CHECKS.due("A takes the greatest", Checks.printed(x, 3), "3");
        x.tell(1, 0, 0, 1, 4);
        x.tell(1, 0, 1, 3, 4);
        x.judge(1);
        CHECKS.due("A's best way", Checks.printed(x, 2), "3/2");
        x.tell(2, 0, 0, 1, 2);
        x.tell(2, 0, 1, 1, 2);
        x.judge(2);
        CHECKS.due("B's best way", Checks.printed(x, 3), "3/2");
        HiddenMoves end = Checks.game("[2/3]");
        end.judge(1);
        end.judge(2);
        CHECKS.due("an end", Checks.printed(end, 2) + Checks.printed(end, 3), "2/32/3");
    }

    private static void judgeThrows() {
        HiddenMoves x = Checks.game("A1(B1([3],[0]),B1([1],[2]))");
        for (int player : new int[] {-1, 0, 3, Integer.MIN_VALUE, Integer.MAX_VALUE}) {
            CHECKS.dueThrow("judge " + player, () -> x.judge(player), "IllegalArgumentException");
            CHECKS.dueThrow("judge without a game " + player, () -> new HiddenMoves().judge(player),
                "IllegalArgumentException");
        }
        x.judge(1);
        x.tell(1, 0, 0, 1, 2);
        CHECKS.dueThrow("A's way is not good", () -> x.judge(1), "IllegalStateException");
        CHECKS.due("nothing changed", Checks.printed(x, 2), "0");
        CHECKS.due("nor the reply", x.reply(1, 0), 1);
        CHECKS.dueThrow("B's way is good", () -> x.judge(2), "nothing");
        x.tell(2, 0, 0, 1, 2);
        CHECKS.dueThrow("B's way is not good", () -> x.judge(2), "IllegalStateException");
    }

    private static int[] allReplies(HiddenMoves x, int player) {
        int[] moves = new int[6];
        for (int i = 0; i < 6; i++) {
            moves[i] = x.reply(player, i - 1);
        }
        return moves;
    }

    private static void replies() {
        HiddenMoves x = Checks.game("A1([5],A2([1],[2]))");
        CHECKS.dueAll("not judged", allReplies(x, 2), -1, -1, -1, -1, -1, -1);
        x.judge(2);
        CHECKS.dueAll("a set that is not come to", allReplies(x, 2), -1, 0, 0, -1, -1, -1);
        CHECKS.dueAll("the other one is not judged", allReplies(x, 1), -1, -1, -1, -1, -1, -1);
        x.judge(1);
        CHECKS.dueAll("B has no sets", allReplies(x, 1), -1, -1, -1, -1, -1, -1);
        for (int player : new int[] {-1, 0, 3, Integer.MIN_VALUE, Integer.MAX_VALUE}) {
            CHECKS.due("no such player " + player, x.reply(player, 0), -1);
        }
        CHECKS.due("largest set", x.reply(2, Integer.MAX_VALUE), -1);
        CHECKS.due("least set", x.reply(2, Integer.MIN_VALUE), -1);
        HiddenMoves ties = Checks.game("?(1/2:A1([1],[2],[2],[0]),1/2:A2([3],[3],A3([1],[4],[4])))");
        ties.judge(2);
        CHECKS.dueAll("the least of the best", allReplies(ties, 2), -1, 1, 2, 1, -1, -1);
        HiddenMoves even = Checks.game("A1([2],A2([1],[2]),A3([0],[2]))");
        even.judge(2);
        CHECKS.dueAll("the first set decides", allReplies(even, 2), -1, 0, 0, 0, -1, -1);
        HiddenMoves never = Checks.game("A1(B1([1],[0]),B2([3],[2]))");
        never.judge(1);
        CHECKS.dueAll("where chance never leads", allReplies(never, 1), -1, 1, 0, -1, -1, -1);
        never.tell(1, 0, 0, 1, 2);
        never.tell(1, 0, 1, 1, 2);
        CHECKS.dueAll("told, not judged", allReplies(never, 1), -1, 1, 0, -1, -1, -1);
        never.judge(1);
        CHECKS.dueAll("judged again", allReplies(never, 1), -1, 1, 1, -1, -1, -1);
    }

    private static void print() {
        HiddenMoves x = Checks.game("A1([-12/8],[-9999])");
        for (int what = -1; what <= 4; what++) {
            CHECKS.due("nothing to print " + what, x.print(what), -1);
        }
        x.solve();
        CHECKS.due("how many", x.print(0), 4);
        CHECKS.due("which", Checks.lastPrinted(x), "-3/2");
        for (int what : new int[] {-1, 1, 2, 3, 4, Integer.MIN_VALUE, Integer.MAX_VALUE}) {
            CHECKS.due("no such number " + what, x.print(what), -1);
            CHECKS.due("what was printed stays", Checks.lastPrinted(x), "-3/2");
        }
        x.tell(1, 0, 0, 0, 1);
        x.tell(1, 0, 1, 1, 1);
        x.expect();
        CHECKS.due("worked out is not printed", Checks.lastPrinted(x), "-3/2");
        CHECKS.due("whole", x.print(1), 5);
        CHECKS.due("a whole number", Checks.lastPrinted(x), "-9999");
        HiddenMoves zeros = Checks.game("A1(?(1/1000:[1/1000],999/1000:[0]),[-1])");
        zeros.solve();
        CHECKS.due("zeros in the middle", Checks.printed(zeros, 0), "1/1000000");
        HiddenMoves longer = Checks.game("A1([1],A2([1],[0]))");
        longer.tell(1, 0, 0, 1, 9999);
        longer.tell(1, 0, 1, 9998, 9999);
        longer.tell(1, 1, 0, 1, 9997);
        longer.tell(1, 1, 1, 9996, 9997);
        longer.expect();
        // 1/9999 + 9998/9999/9997 = 19995/99960003 = 6665/33320001
        CHECKS.due("in least terms", Checks.printed(longer, 1), "6665/33320001");
    }

    private static void character() {
        HiddenMoves x = Checks.game("[-5/3]");
        x.solve();
        CHECKS.due("nothing printed", x.character(0), -1);
        x.print(0);
        int[] got = new int[7];
        for (int i = 0; i < 7; i++) {
            got[i] = x.character(i - 1);
        }
        CHECKS.dueAll("characters", got, -1, '-', '5', '/', '3', -1, -1);
        CHECKS.due("largest", x.character(Integer.MAX_VALUE), -1);
        CHECKS.due("least", x.character(Integer.MIN_VALUE), -1);
        Checks.read(x, "[1]");
        CHECKS.due("stays when read", Checks.lastPrinted(x), "-5/3");
        x.solve();
        x.print(0);
        CHECKS.due("a shorter one", Checks.lastPrinted(x), "1");
    }

    private static void compare() {
        HiddenMoves x = Checks.game("A1(B1([3],[0]),B1([1],[2]))");
        x.solve();
        x.judge(1);
        CHECKS.due("the same", x.compare(0, 0), 0);
        CHECKS.due("greater", x.compare(0, 2), 1);
        CHECKS.due("less", x.compare(2, 0), -1);
        CHECKS.due("not expected yet", x.compare(0, 1), -2);
        CHECKS.due("not judged yet", x.compare(3, 0), -2);
        for (int what : new int[] {-1, 4, Integer.MIN_VALUE, Integer.MAX_VALUE}) {
            CHECKS.due("no such number " + what, x.compare(what, 0), -2);
            CHECKS.due("no such number, second " + what, x.compare(0, what), -2);
        }
        x.tell(1, 0, 0, 1, 4);
        x.tell(1, 0, 1, 3, 4);
        x.expect();
        x.judge(1);
        x.judge(2);
        CHECKS.dueAll("all", new int[] {x.compare(0, 1), x.compare(1, 2), x.compare(2, 3), x.compare(3, 1)},
            0, 0, -1, 1);
        HiddenMoves close = Checks.game("A1([-9998/9999],[-9997/9998])");
        close.solve();
        close.expect();
        CHECKS.due("close ones below 0", close.compare(0, 1), 1);
        CHECKS.due("the other way round", close.compare(1, 0), -1);
    }

    private static void check() {
        HiddenMoves x = Checks.game("A1(B1([3],[0]),B1([1],[2]))");
        CHECKS.due("not solved", x.check(), -1);
        x.expect();
        x.judge(1);
        CHECKS.due("still not solved", x.check(), -1);
        x.solve();
        CHECKS.due("solved", x.check(), 1);
        CHECKS.due("again", x.check(), 1);
        x.judge(2);
        x.tell(1, 0, 0, 1, 2);
        CHECKS.due("ways do not matter", x.check(), 1);
        Checks.read(x, "[1");
        CHECKS.due("stays with a bad text", x.check(), 1);
        Checks.read(x, "[1]");
        CHECKS.due("gone with a new game", x.check(), -1);
    }
}
