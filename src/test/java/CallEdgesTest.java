import java.math.BigInteger;
import java.util.function.IntUnaryOperator;

/** The sentences of promises 1 to 18 that name a boundary case, one by one. */
public final class CallEdgesTest {
    private static final Checks CHECKS = new Checks();
    private static final String STATE = "IllegalStateException";
    private static final String ARGUMENT = "IllegalArgumentException";
    private static final String INDEX = "IndexOutOfBoundsException";
    private static final String SQUARE = "A1(B1([3],[0]),B1([1],[2]))";
    private static final int[] NO_PLAYERS = {Integer.MIN_VALUE, -1, 0, 3, 4, 257, Integer.MAX_VALUE};

    public static void main(String[] args) {
        calls512();
        newObject();
        typeOneToEight();
        typeLowestBytes();
        typeOneIsWrong();
        typeMoreThan4000();
        readEmptyText();
        placeOfLatest();
        countOthers();
        setsAndPlansOfNone();
        setsFewestAndMost();
        setsInOrder();
        setOfNone();
        setFewestAndMost();
        plansFewestAndMost();
        tellNoSuchMove();
        tellBottom();
        tellTop();
        goodOneTogether();
        goodNearOne();
        goodOfNone();
        waysAtFirst();
        solveWithoutGame();
        valueIsGreatest();
        mostSetsAndPlans();
        weightsTogether();
        weightsTogetherOfBoth();
        expectThrows();
        expectInEachSetForItself();
        judgeNoSuchPlayer();
        judgeStates();
        judgeTheLeast();
        replyLesserMove();
        replyOfNone();
        replyLatest();
        printForms();
        printLongest();
        printOfNone();
        characterOfNone();
        compareThree();
        compareOfNone();
        checkOfNone();
        CHECKS.finish();
    }

    private static void dueNone(String call, IntUnaryOperator x, int... arguments) {
        for (int argument : arguments) {
            CHECKS.due(call + " " + argument, x.applyAsInt(argument), -1);
        }
    }

    private static void calls512() {
        CHECKS.sentence("An object is used for at most 512 calls after it has been made");
        HiddenMoves x = new HiddenMoves();
        String text = "A1(B1([3],[0]),B1([1],[2]))" + " ".repeat(3973);
        Checks.type(x, text);
        // 500 calls so far.
        CHECKS.due("read", x.read(), 0);
        x.tell(1, 0, 0, 1, 4);
        x.tell(1, 0, 1, 3, 4);
        x.solve();
        x.expect();
        x.judge(1);
        x.judge(2);
        CHECKS.due("reply", x.reply(2, 0), 0);
        CHECKS.due("check", x.check(), 1);
        CHECKS.due("compare", x.compare(0, 2), 0);
        CHECKS.due("print, the 511th", x.print(0), 3);
        CHECKS.due("character, the 512th", x.character(2), '2');
    }

    private static void newObject() {
        CHECKS.sentence("No text, no game; nothing printed.");
        HiddenMoves used = Checks.game(SQUARE);
        used.solve();
        used.print(0);
        HiddenMoves x = new HiddenMoves();
        CHECKS.due("no text", x.type('[', 1), 1);
        CHECKS.due("no game", x.count(0), -1);
        CHECKS.due("no fault", x.place(), -1);
        dueNone("nothing printed", x::character, -1, 0, 1, 639, 640, 641, 642);
        dueNone("nothing worked out", x::print, 0, 1, 2, 3);
        dueNone("no sets", x::sets, 1, 2);
        dueNone("no plans", x::plans, 1, 2);
        dueNone("no way", x::good, 1, 2);
    }

    private static void typeOneToEight() {
        CHECKS.sentence("NONE, and nothing is put, when n is not 1 .. 8");
        long blanks = 0x2020202020202020L;
        for (int n = 1; n <= 8; n++) {
            HiddenMoves x = new HiddenMoves();
            CHECKS.due("n " + n, x.type(blanks, n), n);
            CHECKS.due("again " + n, x.type(blanks, n), 2 * n);
        }
        HiddenMoves x = new HiddenMoves();
        for (int n : new int[] {Integer.MIN_VALUE, -4000, -8, -1, 0, 9, 10, 16, 257, 264, 4000, Integer.MAX_VALUE}) {
            CHECKS.due("n " + n, x.type(blanks, n), -1);
        }
        CHECKS.due("nothing was put", x.type(blanks, 1), 1);
    }

    private static void typeLowestBytes() {
        CHECKS.sentence("the lowest n bytes of a number, the highest of them first: its length");
        HiddenMoves x = new HiddenMoves();
        CHECKS.due("eight", x.type(0x413128423128_5B33L, 8), 8);
        CHECKS.due("seven, a wrong byte above", x.type(0x80_5D2C5B305D292CL, 7), 15);
        CHECKS.due("three, below 0", x.type(0xFFFFFFFFFF_423128L, 3), 18);
        CHECKS.due("five, 31 above", x.type(0x1F_5B315D2C5BL, 5), 23);
        CHECKS.due("one, 127 above", x.type(0x7F32L, 1), 24);
        CHECKS.due("three more", x.type(0x5D2929L, 3), 27);
        CHECKS.due("A1(B1([3],[0]),B1([1],[2]))", x.read(), 0);
        x.solve();
        CHECKS.due("its value", Checks.printed(x, 0), "3/2");
    }

    private static void typeOneIsWrong() {
        CHECKS.sentence("NONE, and nothing is put, when .. one is not 32 .. 126");
        HiddenMoves x = new HiddenMoves();
        for (int at = 0; at < 8; at++) {
            for (int n = at + 1; n <= 8; n++) {
                long others = 0x2020202020202020L & ~(255L << 8 * at);
                for (long wrong : new long[] {0, 31, 127, 128, 160, 255}) {
                    CHECKS.due(wrong + " at " + at + " of " + n, x.type(others | wrong << 8 * at, n), -1);
                }
            }
        }
        CHECKS.due("nothing was put", x.type(' ', 1), 1);
    }

    private static void typeMoreThan4000() {
        CHECKS.sentence("NONE, and nothing is put, when .. there would be more than 4000");
        for (int n = 1; n <= 8; n++) {
            HiddenMoves x = new HiddenMoves();
            Checks.type(x, " ".repeat(4001 - n));
            CHECKS.due(n + " would be 4001", x.type(0x2020202020202020L, n), -1);
            if (n > 1) {
                CHECKS.due(n - 1 + " are 4000", x.type(0x2020202020202020L, n - 1), 4000);
            }
            CHECKS.due("full", x.type(' ', 1), -1);
            CHECKS.due("of 4000 blanks", x.read(), 1);
            CHECKS.due("it ends", x.place(), 4000);
            CHECKS.due("empty again", x.type(0x2020202020202020L, 8), 8);
        }
    }

    private static void readEmptyText() {
        CHECKS.sentence("the text is empty then in any case");
        HiddenMoves x = new HiddenMoves();
        CHECKS.due("nothing typed", x.read(), 1);
        CHECKS.due("at its length", x.place(), 0);
        CHECKS.due("a game", Checks.read(x, "[1]"), 0);
        CHECKS.due("empty behind a game", x.read(), 1);
        CHECKS.due("at 0", x.place(), 0);
        CHECKS.due("a fault", Checks.read(x, "[1/0]"), 3);
        CHECKS.due("empty behind a fault", x.type('[', 1), 1);
        CHECKS.due("none of it", x.read(), 1);
        CHECKS.due("not joined", Checks.read(x, "1]"), 1);
        CHECKS.due("at its first word", x.place(), 0);
    }

    private static void placeOfLatest() {
        CHECKS.sentence("The place of the fault of the latest read(); NONE when it had none, and before.");
        HiddenMoves x = new HiddenMoves();
        CHECKS.due("before", x.place(), -1);
        Checks.type(x, "A1([1],[2/0])");
        CHECKS.due("typed, not read", x.place(), -1);
        CHECKS.due("read", x.read(), 3);
        CHECKS.due("its place", x.place(), 8);
        CHECKS.due("still its place", x.place(), 8);
        Checks.type(x, "[1");
        CHECKS.due("typed, not read again", x.place(), 8);
        CHECKS.due("none of it", x.read(), 1);
        CHECKS.due("the latest", x.place(), 2);
        CHECKS.due("fine", Checks.read(x, "[1]"), 0);
        CHECKS.due("none", x.place(), -1);
        CHECKS.due("at 0", Checks.read(x, "?(1/2:[1])"), 3);
        CHECKS.due("0 is a place", x.place(), 0);
        CHECKS.due("fine again", Checks.read(x, "[1]"), 0);
        CHECKS.due("none again", x.place(), -1);
    }

    private static void countOthers() {
        CHECKS.sentence("NONE for others, or without a game");
        HiddenMoves x = new HiddenMoves();
        int[] others = {Integer.MIN_VALUE, -2, -1, 4, 5, 256, Integer.MAX_VALUE};
        dueNone("without a game", x::count, 0, 1, 2, 3);
        dueNone("others without a game", x::count, others);
        CHECKS.due("a fault", Checks.read(x, "?(1/2:A1([1]),1/3:[2])"), 3);
        dueNone("still without a game", x::count, 0, 1, 2, 3);
        CHECKS.due("a game", Checks.read(x, "?(1/2:A1([1]),1/2:B1([2],[3]))"), 0);
        dueNone("others", x::count, others);
        CHECKS.dueAll("nodes, ends, draws, choices", new int[] {x.count(0), x.count(1), x.count(2), x.count(3)},
            6, 3, 1, 2);
        CHECKS.due("the least game", Checks.read(x, "[1]"), 0);
        CHECKS.dueAll("one end", new int[] {x.count(0), x.count(1), x.count(2), x.count(3)}, 1, 1, 0, 0);
    }

    private static void setsAndPlansOfNone() {
        CHECKS.sentence("NONE when there is no such player, or no game");
        HiddenMoves x = new HiddenMoves();
        dueNone("sets without a game", x::sets, 1, 2);
        dueNone("plans without a game", x::plans, 1, 2);
        Checks.read(x, "A1([1/0])");
        dueNone("sets still without a game", x::sets, 1, 2);
        dueNone("plans still without a game", x::plans, 1, 2);
        Checks.read(x, SQUARE);
        dueNone("sets", x::sets, NO_PLAYERS);
        dueNone("plans", x::plans, NO_PLAYERS);
        CHECKS.dueAll("of players", new int[] {x.sets(1), x.sets(2), x.plans(1), x.plans(2)}, 1, 1, 2, 2);
    }

    private static void setsFewestAndMost() {
        CHECKS.sentence("How many sets a player (1 A, 2 B) has");
        HiddenMoves none = Checks.game("?(1/2:[1],1/2:[2])");
        CHECKS.dueAll("none", new int[] {none.sets(1), none.sets(2)}, 0, 0);
        HiddenMoves onlyA = Checks.game("A1([1],A2([1]))");
        CHECKS.dueAll("only A", new int[] {onlyA.sets(1), onlyA.sets(2)}, 2, 0);
        HiddenMoves onlyB = Checks.game("B1([1],B2([1],B3([0])))");
        CHECKS.dueAll("only B", new int[] {onlyB.sets(1), onlyB.sets(2)}, 0, 3);
    }

    private static void setsInOrder() {
        CHECKS.sentence("SETS of a player are counted from 0 in the order in which they are first met.");
        HiddenMoves x = Checks.game("?(1/2:A9(A5([1]),B8(A7([2],[3],[4]),B6([1],[2]))),1/2:A3(B8([1],[2]),[4],[5]))");
        CHECKS.dueAll("A's", new int[] {x.set(1, 0, 1), x.set(1, 1, 1), x.set(1, 2, 1), x.set(1, 3, 1)}, 9, 5, 7, 3);
        CHECKS.dueAll("B's", new int[] {x.set(2, 0, 1), x.set(2, 1, 1), x.set(2, 2, 1)}, 8, 6, -1);
    }

    private static void setOfNone() {
        CHECKS.sentence("set: NONE when there is none such");
        HiddenMoves x = new HiddenMoves();
        dueNone("without a game", what -> x.set(1, 0, what), 0, 1, 2);
        Checks.read(x, "A4([1],B5([2],[3]),A6([7]))");
        for (int what = 0; what <= 2; what++) {
            int kind = what;
            dueNone("A's set, what " + what, set -> x.set(1, set, kind), Integer.MIN_VALUE, -1, 2, 3, 10,
                Integer.MAX_VALUE);
            dueNone("B's set, what " + what, set -> x.set(2, set, kind), Integer.MIN_VALUE, -1, 1, 2, 10,
                Integer.MAX_VALUE);
            dueNone("player, what " + what, player -> x.set(player, 0, kind), NO_PLAYERS);
        }
        dueNone("what of A", what -> x.set(1, 0, what), Integer.MIN_VALUE, -1, 3, 4, Integer.MAX_VALUE);
        dueNone("what of B", what -> x.set(2, 0, what), Integer.MIN_VALUE, -1, 3, 4, Integer.MAX_VALUE);
        CHECKS.dueAll("A's last", new int[] {x.set(1, 1, 0), x.set(1, 1, 1), x.set(1, 1, 2)}, 1, 6, 1);
        CHECKS.dueAll("B's only", new int[] {x.set(2, 0, 0), x.set(2, 0, 1), x.set(2, 0, 2)}, 2, 5, 0);
        CHECKS.due("fewer sets now", Checks.read(x, "[1]"), 0);
        dueNone("gone", what -> x.set(1, 0, what), 0, 1, 2);
    }

    private static void setFewestAndMost() {
        CHECKS.sentence("How many moves a set of a player has (what 0), its number in the text (1), of how many own "
            + "moves the way to it consists (2)");
        StringBuilder text = new StringBuilder();
        for (int i = 0; i < 10; i++) {
            text.append("A").append(i * 1111).append("(B").append(9999 - i).append("(");
        }
        HiddenMoves x = Checks.game(text + "[1]" + ")".repeat(20));
        for (int i = 0; i < 10; i++) {
            CHECKS.dueAll("set " + i + " of A", new int[] {x.set(1, i, 0), x.set(1, i, 1), x.set(1, i, 2)},
                1, i * 1111, i);
            CHECKS.dueAll("set " + i + " of B", new int[] {x.set(2, i, 0), x.set(2, i, 1), x.set(2, i, 2)},
                1, 9999 - i, i);
        }
        dueNone("an 11th", set -> x.set(1, set, 0), 10);
        HiddenMoves wide = Checks.game("A1([1],B1([1],[2],[3]),B2([1],[2]),A2(B3([1])))");
        CHECKS.dueAll("moves", new int[] {wide.set(1, 0, 0), wide.set(2, 0, 0), wide.set(2, 1, 0), wide.set(2, 2, 0)},
            4, 3, 2, 1);
        CHECKS.dueAll("the other one's moves do not count", new int[] {wide.set(2, 2, 2), wide.set(1, 1, 2)}, 0, 1);
    }

    private static void plansFewestAndMost() {
        CHECKS.sentence("A PLAN of a player tells a move for each of its sets.");
        HiddenMoves none = Checks.game("[1]");
        CHECKS.dueAll("without sets", new int[] {none.plans(1), none.plans(2)}, 1, 1);
        HiddenMoves one = Checks.game("A1(B1([1]))");
        CHECKS.dueAll("one move each", new int[] {one.plans(1), one.plans(2)}, 1, 1);
        HiddenMoves most = Checks.game("A1(A2(A3([1],[2],[3],[4]),[1],[2],[3]),[1],[2],"
            + "B1([1],?(1/5:B2([1],[2]),1/5:B3([1],[2]),1/5:B4([1],[2]),1/5:B5([1],[2]),1/5:B6([1],[2]))))");
        CHECKS.dueAll("most", new int[] {most.plans(1), most.plans(2)}, 64, 64);
        // Sets behind a move that a plan does not take count all the same.
        HiddenMoves deep = Checks.game("A1([1],A2([1],A3([1],[2],[3])))");
        CHECKS.due("all sets count", deep.plans(1), 12);
    }

    private static void tellNoSuchMove() {
        CHECKS.sentence("IndexOutOfBoundsException when there is no such move");
        HiddenMoves x = new HiddenMoves();
        CHECKS.dueThrow("no game", () -> x.tell(1, 0, 0, 1, 1), INDEX);
        Checks.read(x, "A1([1/0])");
        CHECKS.dueThrow("still no game", () -> x.tell(1, 0, 0, 1, 1), INDEX);
        Checks.read(x, "A1(B1([1],[2],[3]),A2([1],[2],[3],[4]))");
        for (int player : NO_PLAYERS) {
            CHECKS.dueThrow("player " + player, () -> x.tell(player, 0, 0, 1, 1), INDEX);
        }
        for (int set : new int[] {Integer.MIN_VALUE, -1, 2, 10, Integer.MAX_VALUE}) {
            CHECKS.dueThrow("A's set " + set, () -> x.tell(1, set, 0, 1, 1), INDEX);
        }
        CHECKS.dueThrow("B's set 1", () -> x.tell(2, 1, 0, 1, 1), INDEX);
        int[][] moves = {{1, 0, 2}, {1, 1, 4}, {2, 0, 3}};
        for (int[] set : moves) {
            CHECKS.dueThrow("the last move", () -> x.tell(set[0], set[1], set[2] - 1, 0, 1), "nothing");
            for (int move : new int[] {Integer.MIN_VALUE, -1, set[2], set[2] + 1, Integer.MAX_VALUE}) {
                CHECKS.dueThrow("move " + move, () -> x.tell(set[0], set[1], move, 0, 1), INDEX);
            }
        }
        CHECKS.due("A's way is as at first", x.good(1), 1);
        CHECKS.due("B's way is as at first", x.good(2), 1);
    }

    private static void tellBottom() {
        CHECKS.sentence("IllegalArgumentException when bottom is not 1 .. 9999");
        HiddenMoves x = Checks.game("A1([0],[1])");
        for (int bottom : new int[] {Integer.MIN_VALUE, -9999, -1, 0, 10000, 10001, 65537, Integer.MAX_VALUE}) {
            CHECKS.dueThrow("bottom " + bottom, () -> x.tell(1, 0, 1, 0, bottom), ARGUMENT);
            CHECKS.dueThrow("bottom and top " + bottom, () -> x.tell(1, 0, 1, bottom, bottom), ARGUMENT);
        }
        for (int bottom : new int[] {1, 2, 9998, 9999}) {
            CHECKS.dueThrow("bottom " + bottom, () -> x.tell(1, 0, 1, 1, bottom), "nothing");
            CHECKS.dueThrow("the rest of " + bottom, () -> x.tell(1, 0, 0, bottom - 1, bottom), "nothing");
            x.expect();
            CHECKS.due("1 / " + bottom, Checks.printed(x, 1), bottom == 1 ? "1" : "1/" + bottom);
        }
    }

    private static void tellTop() {
        CHECKS.sentence("or top is not 0 .. bottom");
        HiddenMoves x = Checks.game("A1([0],[1])");
        for (int bottom : new int[] {1, 5, 9999}) {
            for (int top : new int[] {Integer.MIN_VALUE, -1, bottom + 1, 10000, Integer.MAX_VALUE}) {
                CHECKS.dueThrow(top + " / " + bottom, () -> x.tell(1, 0, 1, top, bottom), ARGUMENT);
            }
            CHECKS.due("nothing was told", x.good(1), 1);
            x.tell(1, 0, 0, 0, bottom);
            x.tell(1, 0, 1, bottom, bottom);
            x.expect();
            CHECKS.due("from 0 to " + bottom, Checks.printed(x, 1), "1");
            x.tell(1, 0, 0, 1, 1);
            x.tell(1, 0, 1, 0, 1);
        }
    }

    private static void goodOneTogether() {
        CHECKS.sentence("it is GOOD, if in each set they are 1 together");
        HiddenMoves x = Checks.game("A1(A2([1],[2]),A3([3],[4],[5]))");
        for (int set = 0; set < 3; set++) {
            x.tell(1, set, 0, 1, 2);
            CHECKS.due("1/2 in set " + set, x.good(1), 0);
            x.tell(1, set, 1, 1, 3);
            CHECKS.due("5/6 in set " + set, x.good(1), 0);
            x.tell(1, set, 1, 2, 3);
            CHECKS.due("7/6 in set " + set, x.good(1), 0);
            x.tell(1, set, 1, 50, 100);
            CHECKS.due("1 in set " + set, x.good(1), 1);
            CHECKS.due("B has no sets", x.good(2), 1);
        }
        x.tell(1, 0, 0, 0, 1);
        x.tell(1, 0, 1, 0, 1);
        CHECKS.due("0 together", x.good(1), 0);
        x.tell(1, 0, 0, 1, 1);
        x.tell(1, 0, 1, 1, 1);
        CHECKS.due("2 together", x.good(1), 0);
        x.tell(1, 0, 0, 0, 9999);
        CHECKS.due("1 again", x.good(1), 1);
        HiddenMoves both = Checks.game("B1(A1([1],[2]),A1([3],[4]))");
        both.tell(2, 0, 0, 0, 1);
        CHECKS.dueAll("each for itself", new int[] {both.good(1), both.good(2)}, 1, 0);
        HiddenMoves single = Checks.game("A1([1])");
        single.tell(1, 0, 0, 9998, 9999);
        CHECKS.due("a single move", single.good(1), 0);
        single.tell(1, 0, 0, 9999, 9999);
        CHECKS.due("a single move with 1", single.good(1), 1);
    }

    private static void tellFour(HiddenMoves x, int[] tops, int[] bottoms) {
        for (int i = 0; i < 4; i++) {
            x.tell(1, 0, i, tops[i], bottoms[i]);
        }
    }

    private static void goodNearOne() {
        CHECKS.sentence("they are 1 together, as fractions");
        HiddenMoves x = Checks.game("A1([1],[2],[3],[4])");
        int[] bottoms = {9999, 9998, 9997, 9995};
        tellFour(x, new int[] {2499, 2, 4997, 2499}, bottoms);
        CHECKS.due("1 and 6 parts of 9989004099390030", x.good(1), 0);
        tellFour(x, new int[] {1, 3330, 2, 6663}, bottoms);
        CHECKS.due("1 less 8 parts of 9989004099390030", x.good(1), 0);
        tellFour(x, new int[] {9999, 9998, 9997, 9995}, bottoms);
        CHECKS.due("4", x.good(1), 0);
        tellFour(x, new int[] {1, 1, 1, 9996}, new int[] {9999, 9999, 9999, 9999});
        CHECKS.due("1 of 9999 parts", x.good(1), 1);
        tellFour(x, new int[] {4999, 1, 2499, 1}, new int[] {9998, 9998, 9996, 4});
        CHECKS.due("5000/9998 + 4998/9996", x.good(1), 0);
        tellFour(x, new int[] {4998, 1, 2499, 1}, new int[] {9998, 9998, 9996, 4});
        CHECKS.due("4999/9998 + 4998/9996", x.good(1), 1);
    }

    private static void goodOfNone() {
        CHECKS.sentence("good: NONE as for sets()");
        HiddenMoves x = new HiddenMoves();
        dueNone("without a game", x::good, 1, 2);
        Checks.read(x, "[1/0]");
        dueNone("still without a game", x::good, 1, 2);
        Checks.read(x, SQUARE);
        dueNone("no such player", x::good, NO_PLAYERS);
        CHECKS.dueAll("players", new int[] {x.good(1), x.good(2)}, 1, 1);
    }

    private static void waysAtFirst() {
        CHECKS.sentence("At first each move 0 has 1, others 0.");
        HiddenMoves x = Checks.game("A1(A2([1],[20]),[300])");
        x.expect();
        CHECKS.due("move 0", Checks.printed(x, 1), "1");
        x.tell(1, 0, 1, 0, 1);
        x.tell(1, 1, 1, 0, 1);
        CHECKS.due("others have 0 already", x.good(1), 1);
        x.tell(1, 1, 0, 1, 1);
        CHECKS.due("move 0 has 1 already", x.good(1), 1);
        HiddenMoves two = Checks.game("B1(A1([1],[2],[3],[4]),[5])");
        two.tell(1, 0, 3, 1, 1);
        CHECKS.due("2 together", two.good(1), 0);
        two.tell(1, 0, 0, 0, 1);
        CHECKS.due("1 together", two.good(1), 1);
        two.expect();
        CHECKS.due("move 3", Checks.printed(two, 1), "4");
    }

    private static void solveWithoutGame() {
        CHECKS.sentence("solve: IllegalStateException when there is no game");
        HiddenMoves x = new HiddenMoves();
        CHECKS.dueThrow("new", x::solve, STATE);
        Checks.read(x, "[1/0]");
        CHECKS.dueThrow("behind a fault", x::solve, STATE);
        CHECKS.due("nothing to print", x.print(0), -1);
        Checks.read(x, SQUARE);
        CHECKS.dueThrow("with a game", x::solve, "nothing");
        x.tell(1, 0, 0, 1, 3);
        CHECKS.dueThrow("ways need not be good", x::solve, "nothing");
        Checks.read(x, "[1/0]");
        CHECKS.dueThrow("behind a fault the game is still there", x::solve, "nothing");
        CHECKS.due("its value", Checks.printed(x, 0), "3/2");
    }

    private static void valueIsGreatest() {
        CHECKS.sentence("THE VALUE is the greatest number v for which A can mix its plans by chances such that at "
            + "least v is to be expected against every plan of B.");
        String[][] values = {{"[0]", "0"}, {"[-9999]", "-9999"}, {"[9999/9998]", "9999/9998"}, {"A1([-1])", "-1"},
            {"A1([-2],[-1],[-3])", "-1"}, {"B1([2],[1],[3])", "1"}, {"A1(B1([1],[0]),B1([0],[1]))", "1/2"},
            {"A1(B1([1],[0]),B2([0],[1]))", "0"}, {"B1(A1([1],[0]),A2([0],[1]))", "1"},
            {"A1(B1([9999],[-9999]),B1([-9999],[9999]))", "0"}, {"A1(B1([9999],[0]),B1([0],[1/9999]))",
                "9999/99980002"}, {"A1([6257],[1/71],[1/2251])", "6257"}, {"B1([6257],[1/71],[1/2251])", "1/2251"},
            {"A1(B1([2],[2]),B1([2],[2]))", "2"}, {"A1(B1([1],[-1]),B1([-1],[1]),[0],[-1])", "0"}};
        for (String[] value : values) {
            HiddenMoves x = Checks.game(value[0]);
            x.solve();
            CHECKS.due("value of " + value[0], Checks.printed(x, 0), value[1]);
            CHECKS.due("check of " + value[0], x.check(), 1);
        }
    }

    /** Ten parts that have nothing to do with one another, each with a set of A and of B. */
    private static void mostSetsAndPlans() {
        CHECKS.sentence("11th set of a player .. more than 4 moves .. more than 64 plans");
        StringBuilder text = new StringBuilder("?(");
        for (int i = 0; i < 10; i++) {
            int movesOfA = i < 3 ? 4 : 1;
            int movesOfB = i > 6 ? 4 : 1;
            text.append(i == 0 ? "1/2:?(1/5:A" : i == 5 ? "),1/2:?(1/5:A" : ",1/5:A").append(i);
            for (int j = 0; j < movesOfA; j++) {
                text.append(j == 0 ? "(B" : ",B").append(i);
                for (int k = 0; k < movesOfB; k++) {
                    text.append(k == 0 ? "([" : ",[").append(10 * i + 3 * j - 2 * k).append("]");
                }
                text.append(")");
            }
            text.append(")");
        }
        HiddenMoves x = Checks.game(text + "))");
        CHECKS.dueAll("sets and plans", new int[] {x.sets(1), x.sets(2), x.plans(1), x.plans(2)}, 10, 10, 64, 64);
        workAll(x);
        // 45 on the average; A can add 9 in three parts of ten, B can take 6 in three.
        CHECKS.due("value", Checks.printed(x, 0), "459/10");
        CHECKS.due("expected", Checks.printed(x, 1), "45");
        CHECKS.due("A judged", Checks.printed(x, 2), "216/5");
        CHECKS.due("B judged", Checks.printed(x, 3), "477/10");
        CHECKS.due("check", x.check(), 1);
        for (int i = 0; i < 10; i++) {
            CHECKS.due("B's reply in " + i, x.reply(1, i), i > 6 ? 3 : 0);
            CHECKS.due("A's reply in " + i, x.reply(2, i), i < 3 ? 3 : 0);
        }
        for (int i = 0; i < 3; i++) {
            x.tell(1, i, 0, 0, 1);
            x.tell(1, i, 3, 1, 1);
            x.tell(2, 7 + i, 0, 1, 2);
            x.tell(2, 7 + i, 3, 1, 2);
        }
        workAll(x);
        CHECKS.due("expected then", Checks.printed(x, 1), "234/5");
        CHECKS.due("A judged then", Checks.printed(x, 2), "459/10");
        CHECKS.due("B judged then", Checks.printed(x, 3), "234/5");
    }

    private static String eight(String within) {
        return "?(" + ("1/8:" + within + ",").repeat(7) + "1/8:" + within + ")";
    }

    /** 256 ends of 999900000 each. */
    private static void weightsTogether() {
        CHECKS.sentence("the sum of chance times what A wins over all ends that both plans lead to");
        for (String sign : new String[] {"", "-"}) {
            String ends = eight(eight("[" + sign + "9999]"));
            String all = "?(1/4:" + ends + ",1/4:" + ends + ",1/4:" + ends + ",1/4:" + ends + ")";
            HiddenMoves x = Checks.game("B1(A1(" + all + ",[1/3125]),[-1/8192])");
            CHECKS.due("nodes", x.count(0), 4 * 73 + 5);
            workAll(x);
            CHECKS.due("expected", Checks.printed(x, 1), sign + "9999");
            CHECKS.due("value", Checks.printed(x, 0), "-1/8192");
            CHECKS.due("A judged", Checks.printed(x, 2), sign.isEmpty() ? "-1/8192" : "-9999");
            CHECKS.due("B judged", Checks.printed(x, 3), sign.isEmpty() ? "9999" : "1/3125");
            CHECKS.dueAll("check", new int[] {x.check(), x.reply(1, 0), x.reply(2, 0)},
                1, sign.isEmpty() ? 1 : 0, sign.isEmpty() ? 0 : 1);
        }
    }

    /** Eight ends of 999900000 for each pair of moves. */
    private static void weightsTogetherOfBoth() {
        CHECKS.sentence("the sum of chance times what A wins over all ends that both plans lead to");
        String up = eight("[9999]");
        String down = eight("[-9999]");
        String first = "B1(" + up + "," + down + ",[1/3125])";
        String second = "B1(" + down + "," + up + ",[1/256])";
        HiddenMoves x = Checks.game("A1(" + first + "," + second + ")");
        workAll(x);
        CHECKS.due("expected", Checks.printed(x, 1), "9999");
        CHECKS.due("value", Checks.printed(x, 0), "0");
        CHECKS.due("A judged", Checks.printed(x, 2), "-9999");
        CHECKS.due("B judged", Checks.printed(x, 3), "9999");
        CHECKS.due("check", x.check(), 1);
        for (int player = 1; player <= 2; player++) {
            x.tell(player, 0, 0, 1, 9999);
            x.tell(player, 0, 1, 9998, 9999);
        }
        workAll(x);
        // 1 and 9998 of 9999 parts, against the same: 9999 * (9997 / 9999) ^ 2.
        CHECKS.due("expected then", Checks.printed(x, 1), "99940009/9999");
        CHECKS.due("A judged then", Checks.printed(x, 2), "-9997");
        CHECKS.due("B judged then", Checks.printed(x, 3), "9997");
    }

    private static void workAll(HiddenMoves x) {
        x.solve();
        x.expect();
        x.judge(1);
        x.judge(2);
    }

    private static void expectThrows() {
        CHECKS.sentence("expect: IllegalStateException when there is no game, or a way is not good");
        HiddenMoves x = new HiddenMoves();
        CHECKS.dueThrow("no game", x::expect, STATE);
        Checks.read(x, "[1/0]");
        CHECKS.dueThrow("still no game", x::expect, STATE);
        Checks.read(x, SQUARE);
        for (int player = 1; player <= 2; player++) {
            x.tell(player, 0, 1, 1, 9999);
            CHECKS.dueThrow("a bit more than 1, player " + player, x::expect, STATE);
            x.tell(player, 0, 0, 9997, 9999);
            CHECKS.dueThrow("a bit less than 1, player " + player, x::expect, STATE);
            CHECKS.due("nothing to print", x.print(1), -1);
            x.tell(player, 0, 0, 1, 1);
            x.tell(player, 0, 1, 0, 1);
        }
        x.tell(1, 0, 0, 0, 1);
        x.tell(2, 0, 0, 0, 1);
        CHECKS.dueThrow("neither is good", x::expect, STATE);
        x.tell(1, 0, 1, 1, 1);
        CHECKS.dueThrow("B's is not good", x::expect, STATE);
        x.tell(2, 0, 1, 1, 1);
        CHECKS.dueThrow("both are good", x::expect, "nothing");
        CHECKS.due("expected", Checks.printed(x, 1), "2");
        // A set that cannot be come to has to be good too.
        HiddenMoves away = Checks.game("A1([5],A2([1],[2]))");
        away.tell(1, 1, 0, 0, 1);
        CHECKS.dueThrow("a set that is not come to", away::expect, STATE);
    }

    private static void expectInEachSetForItself() {
        CHECKS.sentence("Players draw by their ways in each set for itself.");
        HiddenMoves x = Checks.game("?(1/2:A1([0],A2([0],[12])),1/2:A3([0],[30]))");
        for (int set = 0; set < 3; set++) {
            x.tell(1, set, 0, 1, 2);
            x.tell(1, set, 1, 1, 2);
        }
        x.expect();
        CHECKS.due("1/2 * 1/4 * 12 + 1/2 * 1/2 * 30", Checks.printed(x, 1), "9");
        // Two nodes of one set are drawn by the same chances.
        HiddenMoves one = Checks.game("B1(A1([0],[6]),A1([12],[0]))");
        one.tell(1, 0, 0, 1, 3);
        one.tell(1, 0, 1, 2, 3);
        one.tell(2, 0, 0, 1, 4);
        one.tell(2, 0, 1, 3, 4);
        one.expect();
        CHECKS.due("1/4 * 2/3 * 6 + 3/4 * 1/3 * 12", Checks.printed(one, 1), "4");
    }

    private static void judgeNoSuchPlayer() {
        CHECKS.sentence("judge: IllegalArgumentException when there is no such player");
        HiddenMoves x = new HiddenMoves();
        for (int player : NO_PLAYERS) {
            CHECKS.dueThrow("no game, player " + player, () -> x.judge(player), ARGUMENT);
        }
        Checks.read(x, SQUARE);
        for (int player : NO_PLAYERS) {
            CHECKS.dueThrow("player " + player, () -> x.judge(player), ARGUMENT);
        }
        x.tell(1, 0, 0, 0, 1);
        x.tell(2, 0, 0, 0, 1);
        for (int player : NO_PLAYERS) {
            CHECKS.dueThrow("no way is good, player " + player, () -> x.judge(player), ARGUMENT);
        }
    }

    private static void judgeStates() {
        CHECKS.sentence("judge: IllegalStateException when there is no game, or that way is not good");
        HiddenMoves x = new HiddenMoves();
        for (int player = 1; player <= 2; player++) {
            int who = player;
            CHECKS.dueThrow("no game " + player, () -> x.judge(who), STATE);
        }
        Checks.read(x, "[1/0]");
        CHECKS.dueThrow("still no game", () -> x.judge(1), STATE);
        Checks.read(x, SQUARE);
        for (int player = 1; player <= 2; player++) {
            int who = player;
            int other = 3 - player;
            x.tell(who, 0, 1, 1, 9999);
            CHECKS.dueThrow("more than 1, player " + who, () -> x.judge(who), STATE);
            CHECKS.dueThrow("the other one's way is good, player " + other, () -> x.judge(other), "nothing");
            x.tell(who, 0, 0, 9998, 9999);
            CHECKS.dueThrow("1, player " + who, () -> x.judge(who), "nothing");
            x.tell(who, 0, 0, 9997, 9999);
            CHECKS.dueThrow("less than 1, player " + who, () -> x.judge(who), STATE);
            x.tell(who, 0, 0, 1, 1);
            x.tell(who, 0, 1, 0, 1);
        }
    }

    private static void judgeTheLeast() {
        CHECKS.sentence("the other one plays the plan that is best against it (for B: the least)");
        HiddenMoves x = Checks.game("A1(B1([3],[-4],[2]),B1([1],[2],[0]))");
        x.judge(1);
        x.judge(2);
        CHECKS.dueAll("B's and A's reply", new int[] {x.reply(1, 0), x.reply(2, 0)}, 1, 0);
        CHECKS.due("B takes the least", Checks.printed(x, 2), "-4");
        CHECKS.due("A takes the greatest", Checks.printed(x, 3), "3");
        HiddenMoves alone = Checks.game("A1([3],[4])");
        alone.judge(1);
        alone.judge(2);
        CHECKS.due("B has only the empty plan", Checks.printed(alone, 2), "3");
        CHECKS.due("A against none", Checks.printed(alone, 3), "4");
    }

    private static void replyLesserMove() {
        CHECKS.sentence("of plans that are as good the one that has the lesser move in the first set in which they are "
            + "not the same");
        String[] texts = {"A1([1],[1],[1],[1])", "A1([0],[1],[1],[0])", "A1([1],A2([0],[1]))", "A1(A2([0],[1]),[1])",
            "A1(A2([0],[0]),A3([0],[1]))", "A1([0],A2([0],[1]),A3([1],[0]))", "?(1/2:A1([0],[2]),1/2:A2([1],[1]))",
            "B1(A1([1],[0]),A2([0],[5]))"};
        int[][] moves = {{0}, {1}, {0, 0}, {0, 1}, {1, 0, 1}, {1, 1, 0}, {1, 0}, {0, 0}};
        for (int i = 0; i < texts.length; i++) {
            HiddenMoves x = Checks.game(texts[i]);
            x.judge(2);
            String below = texts[i].replace('A', 'C').replace('B', 'A').replace('C', 'B').replaceAll("\\[", "[-");
            HiddenMoves mirror = Checks.game(below);
            mirror.judge(1);
            for (int set = 0; set < moves[i].length; set++) {
                CHECKS.due("set " + set + " of " + texts[i], x.reply(2, set), moves[i][set]);
                CHECKS.due("set " + set + " of " + below, mirror.reply(1, set), moves[i][set]);
            }
        }
    }

    private static void replyOfNone() {
        CHECKS.sentence("reply: NONE when that player was not judged since read(), or there is no such set");
        HiddenMoves x = new HiddenMoves();
        dueNone("no game", player -> x.reply(player, 0), 1, 2);
        Checks.read(x, "A1(B1([3],[0]),B1([1],[2]),A2([1]))");
        dueNone("not judged", player -> x.reply(player, 0), 1, 2);
        x.solve();
        x.expect();
        dueNone("still not judged", player -> x.reply(player, 0), 1, 2);
        x.judge(1);
        CHECKS.due("A was judged", x.reply(1, 0), 1);
        dueNone("B was not", set -> x.reply(2, set), -1, 0, 1, 2);
        dueNone("sets of B", set -> x.reply(1, set), Integer.MIN_VALUE, -1, 1, 2, 10, Integer.MAX_VALUE);
        x.judge(2);
        CHECKS.dueAll("B was judged", new int[] {x.reply(2, 0), x.reply(2, 1)}, 0, 0);
        dueNone("sets of A", set -> x.reply(2, set), Integer.MIN_VALUE, -1, 2, 10, Integer.MAX_VALUE);
        dueNone("no such player", player -> x.reply(player, 0), NO_PLAYERS);
        Checks.read(x, "A1(B1([3],[0]),B1([1],[2]),A2([1]))");
        dueNone("not judged since read()", player -> x.reply(player, 0), 1, 2);
        x.judge(2);
        dueNone("A was not judged since", set -> x.reply(1, set), 0, 1);
        CHECKS.due("B was", x.reply(2, 0), 0);
    }

    private static void replyLatest() {
        CHECKS.sentence("Against a player's way that was judged latest");
        HiddenMoves x = Checks.game(SQUARE);
        x.judge(1);
        x.judge(2);
        CHECKS.dueAll("moves 0", new int[] {x.reply(1, 0), x.reply(2, 0)}, 1, 0);
        x.tell(1, 0, 0, 0, 1);
        x.tell(1, 0, 1, 1, 1);
        CHECKS.due("told, not judged", x.reply(1, 0), 1);
        x.judge(2);
        CHECKS.due("the other one was judged", x.reply(1, 0), 1);
        x.judge(1);
        CHECKS.dueAll("judged", new int[] {x.reply(1, 0), x.reply(2, 0)}, 0, 0);
        x.tell(1, 0, 0, 1, 1);
        CHECKS.dueThrow("not good", () -> x.judge(1), STATE);
        CHECKS.due("the latest that was good", x.reply(1, 0), 0);
    }

    private static void printForms() {
        CHECKS.sentence("'-' below 0, the number above in decimal, and, if that below is not 1, '/' and it, in least "
            + "terms: how many characters");
        String[][] forms = {{"0", "0"}, {"-0", "0"}, {"0/9999", "0"}, {"-0/3", "0"}, {"1", "1"}, {"-1", "-1"},
            {"10/5", "2"}, {"-10/5", "-2"}, {"9999", "9999"}, {"-9999/9998", "-9999/9998"}, {"6/4", "3/2"},
            {"-6/4", "-3/2"}, {"9999/9999", "1"}, {"1/9999", "1/9999"}, {"5000/10", "500"}, {"0100/0200", "1/2"},
            {"-9990/9999", "-1110/1111"}};
        for (String[] form : forms) {
            HiddenMoves x = Checks.game("[" + form[0] + "]");
            workAll(x);
            for (int what = 0; what < 4; what++) {
                CHECKS.due("characters of " + form[0], x.print(what), form[1].length());
                CHECKS.due("print of " + form[0], Checks.lastPrinted(x), form[1]);
            }
        }
    }

    /** Six sets of each player, each with another prime number below its chances, and the largest common number. */
    private static void printLongest() {
        CHECKS.sentence("the number above in decimal, and, if that below is not 1, '/' and it");
        int[] primes = {9973, 9967, 9949, 9941, 9931, 9929, 9923, 9907, 9901, 9887, 9883, 9871};
        StringBuilder text = new StringBuilder("?(1/71:?(1/2251:");
        for (int i = 0; i < 12; i++) {
            text.append(i % 2 == 0 ? "A" : "B").append(i).append("([0],");
        }
        text.append("[-1/6257]").append(")".repeat(12)).append(",2250/2251:[0]),70/71:[0])");
        HiddenMoves x = Checks.game(text.toString());
        BigInteger bottom = BigInteger.valueOf(999999997);
        BigInteger ofA = bottom;
        for (int i = 0; i < 12; i++) {
            x.tell(1 + i % 2, i / 2, 0, primes[i] - 1, primes[i]);
            x.tell(1 + i % 2, i / 2, 1, 1, primes[i]);
            bottom = bottom.multiply(BigInteger.valueOf(primes[i]));
            ofA = i % 2 == 0 ? ofA.multiply(BigInteger.valueOf(primes[i])) : ofA;
        }
        x.expect();
        x.judge(1);
        x.judge(2);
        x.solve();
        CHECKS.due("expected", Checks.printed(x, 1), "-1/" + bottom);
        CHECKS.due("A judged", Checks.printed(x, 2), "-1/" + ofA);
        CHECKS.due("B judged", Checks.printed(x, 3), "0");
        CHECKS.due("value", Checks.printed(x, 0), "0");
        CHECKS.dueAll("B's moves", new int[] {x.reply(1, 0), x.reply(1, 5)}, 1, 1);
        CHECKS.dueAll("in order", new int[] {x.compare(2, 1), x.compare(1, 3), x.compare(1, 2)}, -1, -1, 1);
    }

    private static void printOfNone() {
        CHECKS.sentence("NONE, and what was printed stays, when there is none such");
        HiddenMoves x = Checks.game(SQUARE);
        int[] never = {Integer.MIN_VALUE, -1, 4, 5, 256, Integer.MAX_VALUE};
        dueNone("nothing is worked out", x::print, 0, 1, 2, 3);
        dueNone("others", x::print, never);
        Runnable[] works = {x::solve, x::expect, () -> x.judge(1), () -> x.judge(2)};
        String[] due = {"3/2", "3", "0", "3"};
        String latest = "";
        for (int i = 0; i < 4; i++) {
            works[i].run();
            for (int what = i + 1; what < 4; what++) {
                CHECKS.due("not yet " + what, x.print(what), -1);
                CHECKS.due("stays", Checks.lastPrinted(x), latest);
            }
            CHECKS.due("worked out " + i, x.print(i), due[i].length());
            latest = due[i];
            CHECKS.due("printed " + i, Checks.lastPrinted(x), latest);
            for (int what : never) {
                CHECKS.due("others " + what, x.print(what), -1);
                CHECKS.due("stays behind others", Checks.lastPrinted(x), latest);
            }
        }
    }

    private static void characterOfNone() {
        CHECKS.sentence("Character i of what was printed latest; NONE when there is none.");
        HiddenMoves x = Checks.game("A1([-17/3],[-9999/10])");
        x.solve();
        x.tell(1, 0, 0, 0, 1);
        x.tell(1, 0, 1, 1, 1);
        x.expect();
        dueNone("nothing printed", x::character, -1, 0, 1);
        int[] none = {Integer.MIN_VALUE, -1, Integer.MAX_VALUE};
        CHECKS.due("-9999/10", x.print(1), 8);
        CHECKS.due("first", x.character(0), '-');
        CHECKS.due("last", x.character(7), '0');
        dueNone("behind the last", x::character, 8, 9);
        dueNone("far off", x::character, none);
        CHECKS.due("-17/3", x.print(0), 5);
        CHECKS.due("last of the shorter one", x.character(4), '3');
        dueNone("of the longer one nothing is left", x::character, 5, 6, 7, 8);
        dueNone("far off again", x::character, none);
    }

    private static void compareThree() {
        CHECKS.sentence("Compares two numbers as for print(): -1, 0, 1");
        // The value is 3/2; A's way gets 0, B's way 3, both ways 3.
        HiddenMoves x = Checks.game(SQUARE);
        x.solve();
        x.expect();
        x.judge(1);
        x.judge(2);
        int[][] due = {{0, -1, 1, -1}, {1, 0, 1, 0}, {-1, -1, 0, -1}, {1, 0, 1, 0}};
        for (int i = 0; i < 4; i++) {
            for (int j = 0; j < 4; j++) {
                CHECKS.due("compare " + i + " " + j, x.compare(i, j), due[i][j]);
            }
        }
        HiddenMoves near = Checks.game("A1([-9998/9999],[-9997/9998],[0])");
        near.solve();
        near.expect();
        CHECKS.dueAll("0 and below 0", new int[] {near.compare(0, 1), near.compare(1, 0)}, 1, -1);
        near.tell(1, 0, 0, 0, 1);
        near.tell(1, 0, 1, 1, 1);
        near.judge(1);
        CHECKS.dueAll("1 of 99970002 parts", new int[] {near.compare(1, 2), near.compare(2, 1)}, -1, 1);
    }

    private static void compareOfNone() {
        CHECKS.sentence("-2 when there is none such");
        HiddenMoves x = new HiddenMoves();
        Runnable[] works = {x::solve, x::expect, () -> x.judge(1), () -> x.judge(2)};
        for (int worked = -1; worked < 4; worked++) {
            if (worked == 0) {
                CHECKS.due("all the same", Checks.read(x, "A1([2],[2])"), 0);
            }
            if (worked >= 0) {
                works[worked].run();
            }
            for (int i = -1; i <= 4; i++) {
                for (int j = -1; j <= 4; j++) {
                    boolean isThere = i >= 0 && i <= worked && j >= 0 && j <= worked;
                    CHECKS.due("compare " + i + " " + j, x.compare(i, j), isThere ? 0 : -2);
                }
            }
        }
        for (int far : new int[] {Integer.MIN_VALUE, 256, Integer.MAX_VALUE}) {
            CHECKS.dueAll("compare " + far, new int[] {x.compare(far, 0), x.compare(0, far), x.compare(far, far)},
                -2, -2, -2);
        }
    }

    private static void checkOfNone() {
        CHECKS.sentence("check: NONE when the value is not worked out");
        HiddenMoves x = new HiddenMoves();
        CHECKS.due("no game", x.check(), -1);
        Checks.read(x, SQUARE);
        CHECKS.due("not worked out", x.check(), -1);
        x.expect();
        x.judge(1);
        x.judge(2);
        CHECKS.due("others are", x.check(), -1);
        x.solve();
        CHECKS.due("worked out", x.check(), 1);
        Checks.read(x, "[1/0]");
        CHECKS.due("stays behind a fault", x.check(), 1);
        Checks.read(x, SQUARE);
        CHECKS.due("gone behind a read", x.check(), -1);
        x.solve();
        CHECKS.due("worked out again", x.check(), 1);
    }
}
