/** Promises 1 to 4: a new object, type, read and place, with every fault and its edges. */
public final class ReadTest {
    private static final Checks CHECKS = new Checks();

    public static void main(String[] args) {
        newObject();
        type();
        typeToTheLimit();
        noneOfIt();
        noneOfItComesFirst();
        manyNodes();
        manyAbove();
        manySets();
        manyMovesAndWays();
        manyPlans();
        numbers();
        recall();
        moves();
        largeChances();
        largeMultiples();
        largeCommonNumbers();
        orderOfFaults();
        whatReadKeeps();
        CHECKS.finish();
    }

    private static void newObject() {
        HiddenMoves x = new HiddenMoves();
        CHECKS.due("NONE", HiddenMoves.NONE, -1);
        CHECKS.due("new place", x.place(), -1);
        for (int i = -1; i <= 5; i++) {
            CHECKS.due("new count " + i, x.count(i), -1);
            CHECKS.due("new sets " + i, x.sets(i), -1);
            CHECKS.due("new set " + i, x.set(i, 0, 0), -1);
            CHECKS.due("new plans " + i, x.plans(i), -1);
            CHECKS.due("new good " + i, x.good(i), -1);
            CHECKS.due("new reply " + i, x.reply(i, 0), -1);
            CHECKS.due("new print " + i, x.print(i), -1);
            CHECKS.due("new character " + i, x.character(i), -1);
            CHECKS.due("new compare " + i, x.compare(i, i), -2);
        }
        CHECKS.due("new check", x.check(), -1);
        CHECKS.dueThrow("new tell", () -> x.tell(1, 0, 0, 1, 2), "IndexOutOfBoundsException");
        CHECKS.dueThrow("new solve", x::solve, "IllegalStateException");
        CHECKS.dueThrow("new expect", x::expect, "IllegalStateException");
        CHECKS.dueThrow("new judge", () -> x.judge(1), "IllegalStateException");
        CHECKS.due("new read", x.read(), 1);
        CHECKS.due("new read's place", x.place(), 0);
    }

    private static void type() {
        HiddenMoves x = new HiddenMoves();
        CHECKS.due("n 0", x.type('[', 0), -1);
        CHECKS.due("n -1", x.type('[', -1), -1);
        CHECKS.due("n 9", x.type(0x2020202020202020L, 9), -1);
        CHECKS.due("n large", x.type('[', Integer.MAX_VALUE), -1);
        CHECKS.due("n least", x.type('[', Integer.MIN_VALUE), -1);
        CHECKS.due("31", x.type(31, 1), -1);
        CHECKS.due("127", x.type(127, 1), -1);
        CHECKS.due("200", x.type(200, 1), -1);
        CHECKS.due("0 above", x.type('[', 2), -1);
        CHECKS.due("31 in the middle", x.type(0x5B1F5BL, 3), -1);
        CHECKS.due("bytes below 0", x.type(-1L, 8), -1);
        CHECKS.due("32", x.type(' ', 1), 1);
        CHECKS.due("126", x.type('~', 1), 2);
        CHECKS.due("126 is no word", x.read(), 1);
        CHECKS.due("126's place", x.place(), 1);
        CHECKS.due("higher bytes are left out", x.type(0x0101015BL, 1), 1);
        CHECKS.due("highest first", x.type(0xFFFF00000000L | '3' << 8 | '/', 2), 3);
        CHECKS.due("two more", x.type('2' << 8 | ']', 2), 5);
        CHECKS.due("all of it", x.read(), 0);
        x.solve();
        CHECKS.due("in order", Checks.printed(x, 0), "3/2");
    }

    private static void typeToTheLimit() {
        HiddenMoves x = new HiddenMoves();
        for (int i = 1; i <= 499; i++) {
            CHECKS.due("blanks", x.type(0x2020202020202020L, 8), 8 * i);
        }
        CHECKS.due("3996", x.type('[' << 24 | '7' << 16 | ']' << 8 | ' ', 4), 3996);
        CHECKS.due("4001 of 8", x.type(0x2020202020202020L, 5), -1);
        CHECKS.due("4000", x.type(0x20202020L, 4), 4000);
        CHECKS.due("4001", x.type(' ', 1), -1);
        CHECKS.due("a text of 4000", x.read(), 0);
        CHECKS.due("one behind it", x.type(' ', 1), 1);
    }

    private static void fault(String text, int fault, int place) {
        CHECKS.fault(text, fault, place);
    }

    private static void fine(String text) {
        CHECKS.fine(text);
    }

    private static void noneOfIt() {
        String[] texts = {"", "   ", "[", "[1", "[1 ", "[1/", "[1/]", "[1] [", "[1]]", "x", "a1([1])", "[1.5]", "[+1]",
            "[--1]", "[-]", "[- ]", "[1/-2]", "[1/2/3]", "[1 2]", "[12345]", "[1/12345]", "[00001]", "A12345([1])",
            "A", "A(", "A([1])", "A1", "A1[1]", "A1(", "A1()", "A1([1]", "A1([1],", "A1([1],)", "A1([1]:[2])",
            "A1(1:[1])", "A1([1]))", "A-1([1])", "A1/2([1])", "AB1([1])", "?", "?1(1:[1])", "?(", "?()", "?([1])",
            "?(1", "?(1[1])", "?(1:", "?(1:)", "?(1:[1]", "?(1:[1],)", "?(1:[1],[2])", "?(1/2:[1],1/2[2])", ",",
            "1", ")", "(", "]", ":", "-", "/", "C1([1])", "A1([1],B2([2],?(1:[3])", "A1([1] [2])", "?(1/]:[1])",
            "?(1]", "[1:[2]]", "?(1/2:[1],1/2]"};
        int[] places = {0, 3, 1, 2, 3, 3, 3, 4, 3, 0, 0, 2, 1,
            2, 2, 3, 3, 4, 3, 1, 3, 1, 1,
            1, 1, 1, 2, 2, 3, 3, 6, 7, 7, 6,
            3, 7, 1, 2, 1, 1, 1, 2, 2, 2,
            3, 3, 4, 4, 7, 8, 8, 13, 0,
            0, 0, 0, 0, 0, 0, 0, 0, 22, 7, 4,
            3, 2, 13};
        CHECKS.due("a place each", texts.length, places.length);
        for (int i = 0; i < texts.length; i++) {
            fault(texts[i], 1, places[i]);
        }
        fault("A1(".repeat(1333) + "A", 1, 4000);
        fault("?(1:".repeat(1000), 1, 4000);
        fault("(".repeat(4000), 1, 0);
        fine(" [ 1 ] ");
        fine("A1234([1])");
        fine("?(0001/0002:[-0],1/2:[9999/9999])");
    }

    private static void noneOfItComesFirst() {
        fault("A1([1/0],x", 1, 9);
        fault("?(2:[1]", 1, 7);
        fault("A1(A1([1]))x", 1, 11);
        fault("A1(".repeat(600) + "[1]" + ")".repeat(599), 1, 1800 + 3 + 599);
        fault("A1(" + "[1],".repeat(500), 1, 2003);
    }

    /** A tree of nothing but draws and ends; each part of it is one draw with eight ways at most. */
    private static String nodes(int n) {
        if (n == 1) {
            return "[1]";
        }
        int ways = Math.min(8, n - 1);
        StringBuilder text = new StringBuilder("?(");
        int left = n - 1;
        for (int i = 0; i < ways; i++) {
            int part = left / (ways - i);
            text.append(i == 0 ? "" : ",").append("1/").append(ways).append(":").append(nodes(part));
            left -= part;
        }
        return text.append(")").toString();
    }

    private static void manyNodes() {
        fine(nodes(399));
        fine(nodes(400));
        HiddenMoves x = Checks.game(nodes(400));
        CHECKS.due("400 nodes", x.count(0), 400);
        String text = nodes(401);
        fault(text, 2, text.lastIndexOf('['));
        fault(nodes(402), 2, nodes(402).lastIndexOf('[', nodes(402).lastIndexOf('[') - 1));
        String wide = "A1(" + "[1],".repeat(399) + "[1])";
        fault(wide, 2, 3 + 4 * 399);
        fault("A1(" + "[1],".repeat(398) + "[1])", 2, 0);
    }

    private static void manyAbove() {
        fine("?(1:".repeat(20) + "[1]" + ")".repeat(20));
        fault("?(1:".repeat(21) + "[1]" + ")".repeat(21), 2, 84);
        fault("?(1:".repeat(21) + "A1([1])" + ")".repeat(21), 2, 84);
        fault("?(1:".repeat(500) + "[1]" + ")".repeat(500), 2, 84);
        fault("A1([1]," + "?(1:".repeat(20) + "[1]" + ")".repeat(21), 2, 87);
    }

    private static String sets(char player, int n) {
        StringBuilder text = new StringBuilder();
        for (int i = 1; i <= n; i++) {
            text.append("?(1/2:").append(player).append(i * 7).append("([1]),1/2:");
        }
        return text + "[0]" + ")".repeat(n);
    }

    private static void manySets() {
        fine(sets('A', 10));
        String text = sets('A', 11);
        fault(text, 2, text.lastIndexOf('A'));
        String other = sets('B', 11);
        fault(other, 2, other.lastIndexOf('B'));
        fine("?(1/2:" + sets('A', 10) + ",1/2:" + sets('B', 10) + ")");
        fine("?(1/2:" + sets('A', 10) + ",1/2:A14([5]))");
        String both = "?(1/2:" + sets('A', 10) + ",1/2:B1([1],A1([1])))";
        fault(both, 2, both.lastIndexOf('A'));
    }

    private static void manyMovesAndWays() {
        fine("A1([1],[2],[3],[4])");
        fault("A1([1],[2],[3],[4],[5])", 2, 0);
        fault(" B1 ([1],A2([1],[2],[3],[4],[5]))", 2, 9);
        fine("?(" + "1/8:[1],".repeat(7) + "1/8:[1])");
        fault("?(" + "1/9:[1],".repeat(8) + "1/9:[1])", 2, 0);
        fault("A1([0],?(" + "1/9:[1],".repeat(9) + "1/9:[1]))", 2, 7);
    }

    private static void manyPlans() {
        fine("A1(A2(A3([1],[2],[3],[4]),[1],[2],[3]),[1],[2],[3])");
        String text = "A1(A2(A3([1],[2],[3],[4]),[1],[2],[3]),[1],[2],A4([1],[2]))";
        fault(text, 2, text.length());
        fault(text + "  ", 2, text.length() + 2);
        fault(text.replace('A', 'B'), 2, text.length());
        fine("A1(A2(A3([1],[2],[3],[4]),[1],[2],[3]),[1],[2],B1(B2(B3([1],[2],[3],[4]),[1],[2],[3]),[1],[2],[3]))");
        String five = "A1(A2(A3([1],[2],[3],[4]),[1],[2],[3]),[1],[2],A4([1]))";
        fine(five);
        String odd = "A1(A2(A3(A4([1],[2],[3]),[1],[2]),[1],[2]),[1],[2])";
        fault(odd, 2, odd.length());
    }

    private static void numbers() {
        fault("[1/0]", 3, 1);
        fault("[-1/0000]", 3, 1);
        fault("A1([5], [ - 1 / 0 ])", 3, 10);
        fine("[0/1]");
        fine("[-0]");
        fine("[9999/1]");
        fault("?(0:[1],1:[2])", 3, 2);
        fault("?(0/5:[1],1:[2])", 3, 2);
        fault("?(-1:[1])", 3, 2);
        fault("?(-0:[1])", 3, 2);
        fault("?(2:[1])", 3, 2);
        fault("?(3/2:[1])", 3, 2);
        fault("?(1/0:[1])", 3, 2);
        fault("?(0/0:[1])", 3, 2);
        fault("?(-1/0:[1])", 3, 2);
        fault("?(1/2:[1], 5/4:[1])", 3, 11);
        fine("?(5/5:[1])");
        fine("?(2/4:[1],3/6:[2])");
        fine("?(1/2:[1],1/3:[2],1/6:[3])");
        fault("?(1/2:[1],1/3:[2])", 3, 0);
        fault("?(1/2:[1],1/2:[2],1/9999:[3])", 3, 0);
        fault("?(1:[1],1:[2])", 3, 0);
        fault("A1([1],?(1/2:[1],1/3:[2]))", 3, 7);
    }

    private static void recall() {
        fault("A1(A1([1]),[2])", 4, 3);
        fault("A1(A01([1]),[2])", 4, 3);
        fine("A1(B1([1],[3]),B1([2],[3]))");
        fault("A1(B1(A2([1],[2]),[3]),A2([1],[2]))", 4, 23);
        fine("A1(B1(A2([1],[2]),A2([1],[2])),[3])");
        fault("B1(A2([1],[2]),A1(A2([1],[2]),[0]))", 4, 18);
        fault("?(1/2:A1(A3([1],[2]),[0]),1/2:A2(A3([1],[2]),[0]))", 4, 33);
        fault("?(1/2:A1(A2(A3([1],[2]),[0]),[0]),1/2:A2(A3([1],[2]),[0]))", 4, 38);
        fine("?(1/2:A1(B1(A2([1],[2]),[0]),[0]),1/2:A1(B2(A2([1],[2]),[0]),[0]))");
        fault("?(1/2:A1(A2([1],[2]),[0]),1/2:A1([0],A2([1],[2])))", 4, 37);
        fault("A1([1],B1(A1([2],[3]),[1]))", 4, 10);
    }

    private static void moves() {
        fault("B1(A5([1]),A5([2],[3]))", 5, 11);
        fault("B1(A5([2],[3]),A5([1]))", 5, 15);
        fine("B1(A5([2],[3]),B2(A5([1],[4]),A5([1],[5])))");
        fine("B1(A5([2],[3]),A6([1]))");
        fine("B5(A5([2],[3]),A6([1]),[0])");
        fault("B1(A5([1],[2],[3],[4]),A5([1],[2],[3],[4],[5]))", 2, 23);
        fault("B1(A5([1]),A5([2],[1/0]))", 3, 19);
    }

    private static void largeChances() {
        String near = "?(1/9999:?(1/9999:?(1/10:[0],9/10:[0]),9998/9999:[0]),9998/9999:[0])";
        fine(near);
        String exact = "?(1/1000:?(1/1000:?(1/1000:[0],999/1000:[0]),999/1000:[0]),999/1000:[0])";
        fault(exact, 6, exact.indexOf('['));
        String least = "?(2/2000:?(2/2000:?(2/2000:[0],999/1000:[0]),999/1000:[0]),999/1000:[0])";
        fault(least, 6, least.indexOf('['));
        String shared = "?(9998/9999:?(1/9998:?(1/9999:[0],9998/9999:?(1/9998:[0],9997/9998:[0])),9997/9998:[0]),"
                + "1/9999:[0])";
        fine(shared);
        String inChoice = "?(1/1000:?(1/1000:?(1/1000:A1([0]),999/1000:[0]),999/1000:[0]),999/1000:[0])";
        fault(inChoice, 6, inChoice.indexOf('A'));
        String inDraw = "?(1/1000:?(1/1000:?(1/1000:?(1:[0]),999/1000:[0]),999/1000:[0]),999/1000:[0])";
        fault(inDraw, 6, inDraw.lastIndexOf('?'));
        String later = "?(1/1000:?(1/1000:?(1/10:[0],1/1000:[0]))";
        fault(later + ")", 6, later.lastIndexOf('['));
    }

    private static void largeMultiples() {
        fault("?(1/9973:[0],1/9967:[0],1/11:[0])", 6, 0);
        fault("?(1/9973:[0],1/9967:[0],1/9:[0])", 3, 0);
        fault("?(1/512:[0],1/3125:[0],1/625:[0],1/1000:[0])", 3, 0);
        fault("?(1/4096:[0],1/3125:[0],1/81:[0])", 6, 0);
        fault("?(2/9973:[0],4/9967:[0],6/66:[0])", 6, 0);
        fault("?(2/9973:[0],4/9967:[0],6/54:[0])", 3, 0);
        fault("?(1/9973:[0],1/9967:[0],1/9949:[0],1/9941:[0],1/9931:[0],1/9929:[0],1/9923:[0],1/9907:[0])", 6, 0);
        fault("?(1/9973:[0],1/9967:[0],1/9949:[0],1/9941:[0],1/9931:[0],1/9929:[0],1/9923:[0],1/9907:[0],1/2:[0])",
            2, 0);
        fault("A1([1],?(1/9973:[0],1/9967:[0],1/11:[0]))", 6, 7);
    }

    private static void largeCommonNumbers() {
        fine("A1([1/256],?(1/3125:[1/625],3124/3125:[0]))");
        String exact = "A1([1/512],?(1/3125:[1/625],3124/3125:[0]))";
        fault(exact, 6, exact.length());
        fault(exact + "   ", 6, exact.length() + 3);
        fine("A1([1/512],?(1/3125:[0/625],3124/3125:[0]))");
        fine("A1([1/512],?(1/3125:[5/625],3124/3125:[0]))");
        String large = "?(1/9973:?(1/9967:[1/9949],9966/9967:[0]),9972/9973:[0])";
        fault(large, 6, large.length());
        fine("A1([7999],?(1/125:[1/125],124/125:[0]),[1/8])");
        String weight = "A1([8000],?(1/125:[1/125],124/125:[0]),[1/8])";
        fault(weight, 6, weight.length());
        String below = weight.replace("8000", "-8000");
        fault(below, 6, below.length());
        fine(weight.replace("8000", "-7999"));
        fine("?(1/9999:[9999],9998/9999:[9999])");
    }

    private static void orderOfFaults() {
        // The node's own end comes after all that is in it.
        fault("A1([1],[2],[3],[4],[1/0])", 3, 20);
        fault("?(1/2:[1],1/3:[1/0])", 3, 15);
        fault("A1(?(1/2:[1],1/3:[2]),A1([1],[2]))", 3, 3);
        fault("A1(A1([1],[2]),?(1/2:[1],1/3:[2]))", 4, 3);
        // MANY before LARGE before RECALL, where a node begins.
        String deep = "?(1/1000:".repeat(2) + "?(1:".repeat(18) + "?(1/1000:[1]" + ",999/1000:[1])" + ")".repeat(20);
        fault(deep, 2, deep.indexOf('['));
        String tenSets = "?(1/2:" + sets('A', 10) + ",1/2:?(1/1000:?(1/1000:?(1/1000:A1([1]))))";
        fault(tenSets + ")", 2, tenSets.lastIndexOf('A'));
        String notAsked = "A1(?(1/1000:?(1/1000:?(1/1000:A1([1]))))";
        fault(notAsked + ")", 6, notAsked.lastIndexOf('A'));
        fault("A1(".repeat(22) + "[1]" + ")".repeat(22), 4, 3);
        // At a node's end: MANY before LARGE, LARGE before NUMBER, MANY before MOVES.
        fault("?(" + "1/9:[1],".repeat(5) + "1/9973:[0],1/9967:[0],1/9949:[0],1/9941:[0])", 2, 0);
        // At the text's end: MANY before LARGE.
        String plans = "A1(A2(A3([1],[2],[3],[4]),[1],[2],[3]),[8000],[1/8],A4([1/125],?(1/125:[1/125],124/125:[0])))";
        fault(plans, 2, plans.length());
        // The text's end comes last.
        fault("A1(A2(A3([1],[2],[3],[4]),[1],[2],[3]),[1],[2],A4([1],[1/0]))", 3, 55);
    }

    private static void whatReadKeeps() {
        HiddenMoves x = Checks.game("A1([5],[3])");
        x.solve();
        x.expect();
        x.judge(1);
        x.judge(2);
        x.tell(1, 0, 0, 1, 3);
        CHECKS.due("printed", Checks.printed(x, 0), "5");
        CHECKS.due("a bad one", Checks.read(x, "A1([1/0])"), 3);
        CHECKS.due("its place", x.place(), 4);
        CHECKS.due("the game stays", x.count(0), 3);
        CHECKS.due("its number too", x.set(1, 0, 1), 1);
        CHECKS.due("the way stays", x.good(1), 0);
        for (int i = 0; i < 4; i++) {
            CHECKS.due("what was worked out stays " + i, Checks.printed(x, i), "5");
        }
        CHECKS.due("the check stays", x.check(), 1);
        CHECKS.due("the reply stays", x.reply(2, 0), 0);
        CHECKS.due("a text that grows too large", Checks.read(x, "A1(A2([1/512],[2],[3],[4]),?(1/3125:[1/625]))"), 3);
        CHECKS.due("the game still stays", x.sets(1), 1);
        CHECKS.due("a good one", Checks.read(x, "B2(A3([1],[2],[3]),[4])"), 0);
        CHECKS.due("no place", x.place(), -1);
        CHECKS.due("the new game", x.count(0), 6);
        for (int i = 0; i < 4; i++) {
            CHECKS.due("nothing is worked out " + i, x.print(i), -1);
            CHECKS.due("nothing to compare " + i, x.compare(i, i), -2);
        }
        CHECKS.due("nothing to check", x.check(), -1);
        CHECKS.due("no reply of A", x.reply(2, 0), -1);
        CHECKS.due("no reply of B", x.reply(1, 0), -1);
        CHECKS.due("what was printed stays", Checks.lastPrinted(x), "5");
        CHECKS.due("the way is as at first", x.good(1), 1);
        x.expect();
        CHECKS.due("both at move 0", Checks.printed(x, 1), "1");
        CHECKS.due("nothing typed", x.read(), 1);
        CHECKS.due("at 0", x.place(), 0);
    }
}
