import java.util.List;

/** The sentences on FAULTS 2 to 6, one by one: the last value that is taken, the first that is not, the order. */
public final class FaultEdgesTest {
    private static final Checks CHECKS = new Checks();
    private static final int MANY = 2;
    private static final int NUMBER = 3;
    private static final int RECALL = 4;
    private static final int MOVES = 5;
    private static final int LARGE = 6;
    /** 999999997 = 71 * 2251 * 6257; no greater number below 1000000000 has none but factors of four digits. */
    private static final int[] MOST = {71, 2251, 6257};
    private static final int[] TOO_MUCH = {1000, 1000, 1000};
    private static final List<String> KINDS = List.of("[1]", "A1([1])", "B1([1])", "?(1:[1])");

    public static void main(String[] args) {
        node401();
        nodes21Above();
        set11();
        chanceTooLarge();
        chanceInLeastTerms();
        recall();
        recallInOrder();
        orderWhenNodeBegins();
        zeroBelow();
        drawNotAboveZero();
        drawAboveOne();
        fractionBeforeNode();
        moves5();
        ways9();
        multipleTooLarge();
        multipleInLeastTerms();
        notOneTogether();
        movesNotAsMany();
        orderWhenNodeIsOver();
        nodeIsOverBehindItsParts();
        plansTooMany();
        commonNumberTooLarge();
        commonNumberIsLeast();
        weightTooLarge();
        orderAtEnd();
        endComesLast();
        CHECKS.finish();
    }

    /** Draws, each within the first way of the one before it; the chance of what is within is 1 by their product. */
    private static String thin(int[] bottoms, String within) {
        StringBuilder text = new StringBuilder();
        for (int bottom : bottoms) {
            text.append("?(1/").append(bottom).append(":");
        }
        text.append(within);
        for (int i = bottoms.length - 1; i >= 0; i--) {
            text.append(",").append(bottoms[i] - 1).append("/").append(bottoms[i]).append(":[0])");
        }
        return text.toString();
    }

    /** n nodes, all above one another but for the innermost. */
    private static String below(int n, String innermost) {
        return "?(1:".repeat(n) + innermost + ")".repeat(n);
    }

    /** A draw whose first ways take n - 1 nodes with it, and then comes the last node, at chance 1/8. */
    private static String behind(int n, String last) {
        StringBuilder text = new StringBuilder("?(");
        int left = n - 1;
        for (int i = 0; i < 7; i++) {
            int part = left / (7 - i);
            text.append("1/8:").append(tree(part)).append(",");
            left -= part;
        }
        return text.append("1/8:").append(last).append(")").toString();
    }

    private static String tree(int n) {
        if (n == 1) {
            return "[1]";
        }
        int ways = Math.min(4, n - 1);
        StringBuilder text = new StringBuilder("?(");
        int left = n - 1;
        for (int i = 0; i < ways; i++) {
            int part = left / (ways - i);
            text.append(i == 0 ? "" : ",").append("1/").append(ways).append(":").append(tree(part));
            left -= part;
        }
        return text.append(")").toString();
    }

    /** Where the text goes on with these words, for the last time. */
    private static int last(String text, String words) {
        return text.lastIndexOf(words);
    }

    private static void refusedAtLast(String text, int fault, String words) {
        CHECKS.fault(text, fault, last(text, words));
    }

    private static void node401() {
        CHECKS.sentence("2 MANY, it is the 401st");
        CHECKS.fine(behind(399, "[1]"));
        HiddenMoves x = Checks.game(behind(399, "[1]"));
        CHECKS.due("400 nodes", x.count(0), 400);
        for (String kind : KINDS) {
            refusedAtLast(behind(400, kind), MANY, kind);
        }
        CHECKS.fine(behind(398, "A1([1])"));
        refusedAtLast(behind(399, "A1([1])"), MANY, "[1]");
        refusedAtLast(behind(399, "B1([1],[2])"), MANY, "[1]");
        CHECKS.fine(behind(397, "A1([1],[2])"));
        refusedAtLast(behind(398, "A1([1],[2])"), MANY, "[2]");
    }

    private static void nodes21Above() {
        CHECKS.sentence("or more than 20 nodes lie above it");
        CHECKS.fine(below(20, "[1]"));
        for (String kind : KINDS) {
            refusedAtLast(below(21, kind), MANY, kind);
        }
        for (int i = 1; i < KINDS.size(); i++) {
            CHECKS.fine(below(19, KINDS.get(i)));
            refusedAtLast(below(20, KINDS.get(i)), MANY, "[1]");
        }
        CHECKS.fine("A1(" + below(18, "B1([1])") + "," + below(19, "[2]") + ")");
        refusedAtLast("A1(" + below(18, "B1([1])") + "," + below(20, "[2]") + ")", MANY, "[2]");
        CHECKS.fine("?(1/2:" + below(19, "[1]") + ",1/2:" + below(19, "[1]") + ")");
        StringBuilder both = new StringBuilder();
        for (int i = 0; i < 10; i++) {
            both.append("A").append(i).append("(B").append(i).append("(");
        }
        CHECKS.fine(both + "[1]" + ")".repeat(20));
        refusedAtLast(both + "?(1:A0 ([1]))" + ")".repeat(20), MANY, "A0 ");
    }

    private static String tenSets(char player, String last) {
        StringBuilder text = new StringBuilder();
        for (int i = 1; i <= 10; i++) {
            text.append(player).append(i).append("(");
        }
        return text + last + ")".repeat(10);
    }

    private static void set11() {
        CHECKS.sentence("or a choice that begins the 11th set of a player");
        for (char player : new char[] {'A', 'B'}) {
            char other = player == 'A' ? 'B' : 'A';
            CHECKS.fine(tenSets(player, "[1]"));
            refusedAtLast(tenSets(player, player + "11([1])"), MANY, player + "11");
            refusedAtLast(tenSets(player, player + "0([1])"), MANY, player + "0");
            CHECKS.fine(tenSets(player, other + "11([1])"));
            CHECKS.fine("?(1/2:" + tenSets(player, "[1]") + ",1/2:" + player + "01([2]))");
            refusedAtLast("?(1/2:" + tenSets(player, "[1]") + ",1/2:" + player + "11([2]))", MANY, player + "11");
            HiddenMoves x = Checks.game("?(1/2:" + tenSets(player, "[1]") + ",1/2:" + tenSets(other, "[2]") + ")");
            CHECKS.dueAll("ten sets each", new int[] {x.sets(1), x.sets(2)}, 10, 10);
        }
    }

    private static void chanceTooLarge() {
        CHECKS.sentence("then 6 LARGE, if the chance of all draws on the way to it has, in least terms, 1000000000 or "
            + "more below");
        CHECKS.fine(thin(MOST, "[0]"));
        for (String kind : KINDS) {
            String zero = kind.replace("[1]", "[0]");
            CHECKS.fine(thin(MOST, zero));
            refusedAtLast(thin(TOO_MUCH, zero + " "), LARGE, zero + " ");
            refusedAtLast(thin(new int[] {9973, 9967, 9949}, zero + " "), LARGE, zero + " ");
        }
        CHECKS.fine(thin(new int[] {1000, 1000, 999}, "[0]"));
        CHECKS.fine("A1(" + thin(MOST, "B1(A2([0]),A2([0]))") + ")");
        refusedAtLast("A1(?(1/1000:B1(?(1/1000:A2(?(1/1000:[7],999/1000:[0])),999/1000:[0])),999/1000:[0]))", LARGE,
            "[7]");
        String second = "?(1/1000:?(1/1000:?(1/2:[0],1/1000:[7],499/1000:[0]),999/1000:[0]),999/1000:[0])";
        refusedAtLast(second, LARGE, "[7]");
    }

    private static void chanceInLeastTerms() {
        CHECKS.sentence("in least terms");
        CHECKS.fine("?(2/2000:?(1/1000:?(1000/2000:[0],1/2:[0]),999/1000:[0]),999/1000:[0])");
        CHECKS.fine("?(1/1000:?(1/1000:?(10/1000:[0],990/1000:[0]),999/1000:[0]),999/1000:[0])");
        CHECKS.fine("?(1000/1001:?(1/1000:?(1/1000:?(1/999:[0],998/999:[0]),999/1000:[0]),999/1000:[0]),1/1001:[0])");
        CHECKS.fine("?(1/1000:?(1/1000:?(7/9:?(1/7:[0],6/7:[0]),2/9:[0]),999/1000:[0]),999/1000:[0])");
        // 100 / 201000000 is 1 / 2010000; 2010000 * 497 is less than 1000000000, 2010000 * 498 is more.
        String shared = "?(1/1000:?(1/1000:?(100/201:?(1/497:[0],496/497:[0]),96/201:[0],5/201:[0]),999/1000:[0]),"
                + "999/1000:[0])";
        CHECKS.fine(shared);
        CHECKS.fault(shared.replace("1/497:[0],496/497", "1/498:[0],497/498"), LARGE, shared.indexOf("[0]"));
        refusedAtLast("?(2/2000:?(3/3000:?(4/4000:[7],999/1000:[0]),999/1000:[0]),999/1000:[0])", LARGE, "[7]");
    }

    private static void recall() {
        CHECKS.sentence("then 4 RECALL, a choice in a set that was met before, if what its player did on the way to it "
            + "(sets and moves, in order) is not the same as on the way to the first node of that set");
        for (String[] names : new String[][] {{"A", "B"}, {"B", "A"}}) {
            String p = names[0];
            String o = names[1];
            refusedAtLast(p + "1(" + p + "1 ([1]))", RECALL, p + "1 ");
            refusedAtLast(p + "1([1]," + p + "1 ([1],[2]))", RECALL, p + "1 ");
            refusedAtLast(p + "1(" + o + "1(" + p + "1 ([1])))", RECALL, p + "1 ");
            CHECKS.fine(o + "1(" + p + "1([1])," + p + "1([2]))");
            CHECKS.fine(o + "1(" + o + "2(" + p + "1([1]),[3])," + p + "1([2]))");
            CHECKS.fine("?(1/2:" + p + "1([1]),1/2:" + p + "1([2]))");
            refusedAtLast(p + "1(" + p + "2([1])," + p + "2 ([2]))", RECALL, p + "2 ");
            CHECKS.fine(p + "1(" + o + "1(" + p + "2([1])," + p + "2([2])),[3])");
            refusedAtLast("?(1/2:" + p + "1([1]),1/2:" + p + "2(" + p + "1 ([2])))", RECALL, p + "1 ");
            refusedAtLast("?(1/2:" + p + "2(" + p + "1([1])),1/2:" + p + "1 ([2]))", RECALL, p + "1 ");
            refusedAtLast("?(1/2:" + p + "2(" + p + "1([1])),1/2:" + p + "3(" + p + "1 ([2])))", RECALL, p + "1 ");
            CHECKS.fine("?(1/2:" + p + "2(" + p + "1([1])),1/2:" + p + "2(" + p + "1([2])))");
        }
    }

    private static void recallInOrder() {
        CHECKS.sentence("(sets and moves, in order)");
        // A1 then A2, and A2 then A1: the second way to A2 itself is another one already.
        refusedAtLast("?(1/2:A1(A2(A3([1]))),1/2:A2 (A1(A3([1]))))", RECALL, "A2 ");
        // The latest move is the same, an earlier one is not.
        refusedAtLast("?(1/2:A1(A2(A3([1])),[0]),1/2:A1([0],A2 (A3([1]))))", RECALL, "A2 ");
        refusedAtLast("A1(A2([0],[1]),B1(A3(A2 ([0],[1])),[0]))", RECALL, "A2 ");
        // What the other one did does not count.
        CHECKS.fine("B1(B2(A1(A2([1],[2]))),A1(B3(A2([3],[4]),[5])))");
        // Moves of the same set that were taken with another number of the way are the same deed.
        CHECKS.fine("?(1/3:A1([1],A2([1])),1/3:A1([1],A2([2])),1/3:A01([2],B1(A2([1]),A02([3]))))");
    }

    private static void orderWhenNodeBegins() {
        CHECKS.sentence("when a node begins: 2 MANY .. then 6 LARGE .. then 4 RECALL");
        refusedAtLast(below(18, thin(TOO_MUCH, "[7]")), MANY, "[7]");
        refusedAtLast(below(17, thin(TOO_MUCH, "[7]")), LARGE, "[7]");
        refusedAtLast("A1(" + below(20, "A1 ([1])") + ")", MANY, "A1 ");
        refusedAtLast("A1(" + below(19, "A1 ([1])") + ")", RECALL, "A1 ");
        // The 401st, with a chance that is too large (8 * 125 * 1000 * 1000), and in a set that was met before.
        String thin = thin(new int[] {125, 1000, 1000}, "[7]");
        refusedAtLast(behind(397, thin), MANY, "[7]");
        refusedAtLast(behind(396, thin), LARGE, "[7]");
        refusedAtLast(behind(399, "A1(A1 ([1]))"), MANY, "A1 ");
        refusedAtLast(behind(398, "A1(A1 ([1]))"), RECALL, "A1 ");
        // The 11th set, with a chance that is too large.
        refusedAtLast("?(1/2:" + tenSets('A', "[1]") + ",1/2:?(1/1000:?(1/1000:?(1/1000:A11([1])))))", MANY, "A11");
        refusedAtLast("?(1/2:" + tenSets('A', "[1]") + ",1/2:?(1/1000:?(1/1000:?(1/1000:A2 ([1])))))", LARGE, "A2 ");
        refusedAtLast("A1(?(1/1000:?(1/1000:?(1/1000:A1 ([1])))))", LARGE, "A1 ");
        refusedAtLast("A1(?(1/1000:?(1/1000:?(1/999:A1 ([1])))))", RECALL, "A1 ");
    }

    private static void zeroBelow() {
        CHECKS.sentence("When a fraction is over (at its first word): 3 NUMBER, if it has / and 0 behind it");
        for (String zero : new String[] {"1/0", "0/0", "-1/0", "- 1 / 0", "9999/0000", "-0/00", "1/000"}) {
            CHECKS.fault("[ " + zero + "]", NUMBER, 2);
            CHECKS.fault("A1([1],[" + zero + "])", NUMBER, 8);
            CHECKS.fault("?( " + zero + ":[1])", NUMBER, 3);
            CHECKS.fault("?(1/2:[1]," + zero + ":[1])", NUMBER, 10);
        }
        for (String taken : new String[] {"0", "-0", "0/1", "-0/9999", "1/1", "-1/0001", "9999/1", "-9999", "5/3"}) {
            CHECKS.fine("[" + taken + "]");
        }
    }

    private static void drawNotAboveZero() {
        CHECKS.sentence("a draw's, if it is not above 0");
        for (String refused : new String[] {"0", "0/1", "0/9999", "-0", "-0/5", "-1", "-1/2", "- 9999/1", "0000"}) {
            CHECKS.fault("?(" + refused + ":[1],1:[2])", NUMBER, 2);
            CHECKS.fault("?(1/2:[1], " + refused + ":[1])", NUMBER, 11);
        }
        CHECKS.fine("?(1/9999:[1],9998/9999:[2])");
        CHECKS.fine("?(0001/9999:[1],9998/9999:[2])");
    }

    private static void drawAboveOne() {
        CHECKS.sentence("or is above 1");
        for (String refused : new String[] {"2", "3/2", "9999/9998", "9999", "2/1", "0002/0001"}) {
            CHECKS.fault("?(" + refused + ":[1])", NUMBER, 2);
            CHECKS.fault("?(1/2:[1], " + refused + ":[1])", NUMBER, 11);
        }
        for (String taken : new String[] {"1", "1/1", "9999/9999", "0001", "2/2"}) {
            CHECKS.fine("?(" + taken + ":[1])");
        }
    }

    private static void fractionBeforeNode() {
        CHECKS.sentence("the first of these, as it is gone through");
        CHECKS.fault("A1(?(0:A1([1])))", NUMBER, 5);
        CHECKS.fault("A1(?(1:A1([1])))", RECALL, 7);
        CHECKS.fault(below(20, "?(2:[1])"), NUMBER, 82);
        CHECKS.fault(below(20, "?(1:[1])"), MANY, 84);
        // An end begins before its fraction is over.
        refusedAtLast(below(21, "[1/0]"), MANY, "[1/0]");
        CHECKS.fault(below(20, "[1/0]"), NUMBER, 81);
        refusedAtLast(thin(TOO_MUCH, "[1/0]"), LARGE, "[1/0]");
        refusedAtLast(behind(400, "[1/0]"), MANY, "[1/0]");
        refusedAtLast(behind(399, "[1/0]"), NUMBER, "1/0");
        // Of two fractions the first, of two nodes the first.
        CHECKS.fault("A1([1/0],[2/0])", NUMBER, 4);
        CHECKS.fault("?(2:[1],3:[1])", NUMBER, 2);
    }

    private static void moves5() {
        CHECKS.sentence("When a node is over (at its first word): 2 MANY, if a choice has more than 4 moves");
        for (String player : new String[] {"A", "B"}) {
            CHECKS.fine(player + "1([1],[2],[3],[4])");
            CHECKS.fault(player + "1([1],[2],[3],[4],[5])", MANY, 0);
            CHECKS.fault("  " + player + "1([1],[2],[3],[4],[5],[6],[7],[8],[9])", MANY, 2);
            CHECKS.fault("?(1: " + player + " 1([1],[2],[3],[4],?(1:[5])))", MANY, 5);
        }
        CHECKS.fault("A1(" + "[1],".repeat(398) + "[1])", MANY, 0);
    }

    private static void ways9() {
        CHECKS.sentence("or a draw more than 8 ways");
        CHECKS.fine("?(" + "1/8:[1],".repeat(7) + "1/8:[1])");
        CHECKS.fault("?(" + "1/9:[1],".repeat(8) + "1/9:[1])", MANY, 0);
        CHECKS.fault("A1([1], ?(" + "1/9:[1],".repeat(8) + "1/9:[1]))", MANY, 8);
        CHECKS.fault("?(" + "1/399:[1],".repeat(398) + "1/399:[1])", MANY, 0);
        CHECKS.fine("?(1/5:[1],1/5:[1],1/5:[1],1/5:[1],1/5:[1])");
    }

    private static void multipleTooLarge() {
        CHECKS.sentence("6 LARGE, if the least common multiple of what stands below a draw's chances, in least terms, "
            + "is 1000000000 or more");
        // 999999990 and 1000000020; all chances together are 1 in both.
        CHECKS.fine("?(1399/3014:[0],1703/6165:[0],1723/7373:[0],77/9090:[0],14/803:[0])");
        CHECKS.fault("?(392/3695:[0],685/8868:[0],417/4748:[0],369/5935:[0],2/57:[0],12/19:[0])", LARGE, 0);
        CHECKS.fault("A1([1],?(392/3695:[0],685/8868:[0],417/4748:[0],369/5935:[0],2/57:[0],12/19:[0]))", LARGE, 7);
        // 999999997 and 1000000002 are nearest to the limit; they are not 1 together, so NUMBER is due.
        CHECKS.fault("?(1/71:[0],1/2251:[0],1/6257:[0])", NUMBER, 0);
        CHECKS.fault("?(1/258:[0],1/983:[0],1/3943:[0])", LARGE, 0);
        CHECKS.fault("?(1/3943:[0],1/983:[0],1/258:[0],1/2:[0])", LARGE, 0);
        CHECKS.fault("?(1/9973:[0],1/9967:[0],1/9949:[0],1/9941:[0],1/9931:[0],1/9929:[0],1/9923:[0],1/9907:[0])",
            LARGE, 0);
    }

    private static void multipleInLeastTerms() {
        CHECKS.sentence("of what stands below a draw's chances, in least terms");
        CHECKS.fault("?(2/142:[0],3/6753:[0],1/6257:[0])", NUMBER, 0);
        CHECKS.fault("?(2/516:[0],3/2949:[0],2/7886:[0])", LARGE, 0);
        CHECKS.fine("?(4986/9972:[0],4976/9952:[0])");
        CHECKS.fine("?(3324/9972:[0],3317/9951:[0],3309/9927:[0])");
        CHECKS.fault("?(3324/9972:[0],3317/9951:[0],3308/9927:[0])", NUMBER, 0);
    }

    private static void notOneTogether() {
        CHECKS.sentence("3 NUMBER, if a draw's chances are not 1 together");
        CHECKS.fine("?(1/2:[1],1/3:[2],1/6:[3])");
        CHECKS.fine("?(1/9999:[1],9998/9999:[2])");
        CHECKS.fault("?(1/9999:[1],9997/9999:[2])", NUMBER, 0);
        CHECKS.fault("?(1/9999:[1],9999/9999:[2])", NUMBER, 0);
        CHECKS.fault("?(1/2:[1])", NUMBER, 0);
        CHECKS.fault("?(1:[1],1:[2])", NUMBER, 0);
        CHECKS.fault("?(1:[1],1/9999:[2])", NUMBER, 0);
        CHECKS.fault("?(1/2:[1],1/2:[2],1/2:[3],1/2:[4])", NUMBER, 0);
        // Off by 1 of 99970002 parts.
        CHECKS.fault("?(1/9998:[1],9998/9999:[2])", NUMBER, 0);
        CHECKS.fault("B1([1], ?(1/2:[1],1/3:[2]))", NUMBER, 8);
        CHECKS.fault("?(1/2:?(1/2:[1],1/4:[2]),1/4:[3])", NUMBER, 6);
    }

    private static void movesNotAsMany() {
        CHECKS.sentence("5 MOVES, if a choice has not as many moves as the first node of its set");
        String[] moves = {"[1]", "[1],[1]", "[1],[1],[1]", "[1],[1],[1],[1]"};
        for (int i = 0; i < 4; i++) {
            for (int j = 0; j < 4; j++) {
                for (String[] names : new String[][] {{"A", "B"}, {"B", "A"}}) {
                    String text = names[0] + "1(" + names[1] + "5(" + moves[i] + ")," + names[1] + "05(" + moves[j]
                            + "))";
                    CHECKS.fault(text, i == j ? 0 : MOVES, i == j ? -1 : text.indexOf(names[1] + "05"));
                }
            }
        }
        // It is the first node that counts, not the latest; and a third one may be the wrong one.
        refusedAtLast("?(1/3:A1([1],[2]),1/3:A1([1],[2]),1/3:A1 ([1]))", MOVES, "A1 ");
        // A5 and B5 are two sets, A5 and A6 too.
        CHECKS.fine("B5(A5([1]),A6([1],[2]),[3])");
    }

    private static void orderWhenNodeIsOver() {
        CHECKS.sentence("When a node is over: 2 MANY ..; 6 LARGE ..; 3 NUMBER ..; 5 MOVES");
        String large = "1/9973:[0],1/9967:[0],1/9949:[0],1/9941:[0],1/9931:[0],1/9929:[0],1/9923:[0],1/9907:[0]";
        CHECKS.fault("?(" + large + ",1/2:[0])", MANY, 0);
        CHECKS.fault("?(" + large + ")", LARGE, 0);
        CHECKS.fault("?(" + "1/8:[1],".repeat(8) + "1/8:[1])", MANY, 0);
        // Large and 1 together, with nine ways.
        CHECKS.fault("?(392/3695:[0],685/8868:[0],417/4748:[0],369/5935:[0],2/57:[0],3/19:[0],3/19:[0],3/19:[0],"
            + "3/19:[0])", MANY, 0);
        CHECKS.fault("?(392/3695:[0],685/8868:[0],417/4748:[0],369/5935:[0],2/57:[0],3/19:[0],3/19:[0],6/19:[0])",
            LARGE, 0);
        String four = "B1(A5([1],[2],[3],[4]),A05(";
        CHECKS.fault(four + "[1],[2],[3],[4],[5]))", MANY, four.indexOf("A05"));
        CHECKS.fault(four + "[1],[2],[3]))", MOVES, four.indexOf("A05"));
    }

    private static void nodeIsOverBehindItsParts() {
        CHECKS.sentence("When a node is over");
        CHECKS.fault("A1([1],[2],[3],[4],[1/0])", NUMBER, 20);
        CHECKS.fault("A1([1],[2],[3],[4],[5],A1([1]))", RECALL, 23);
        CHECKS.fault("?(" + "1/9:[1],".repeat(8) + "1/9:[1/0])", NUMBER, 71);
        CHECKS.fault("?(1/2:[1],1/3:?(1/2:[1]))", NUMBER, 14);
        CHECKS.fault("B1(A5([1]),A5([1],B1([1])))", RECALL, 18);
        // A first part that is over comes before a second one that begins.
        CHECKS.fault("A1(?(1/2:[1]),A1([1]))", NUMBER, 3);
        CHECKS.fault("A1(B1([1],[2],[3],[4],[5]),A1([1]))", MANY, 3);
        CHECKS.fault("?(1/3:A1([1]),1/3:A1([1],[2]),1/3:[1/0])", MOVES, 18);
    }

    private static void plansTooMany() {
        CHECKS.sentence("At the text's end (at its length): 2 MANY, if a player has more than 64 plans");
        for (String p : new String[] {"A", "B"}) {
            String four = "([1],[2],[3],[4])";
            String sixtyFour = "?(1/3:" + p + "1" + four + ",1/3:" + p + "2" + four + ",1/3:" + p + "3" + four + ")";
            CHECKS.fine(sixtyFour);
            HiddenMoves x = Checks.game(sixtyFour);
            CHECKS.due("64 plans", x.plans(p.equals("A") ? 1 : 2), 64);
            CHECKS.fine(sixtyFour.replaceFirst("\\[4\\]", p + "4([4])"));
            String more = sixtyFour.replaceFirst("\\[4\\]", p + "4([4],[5])");
            CHECKS.fault(more, MANY, more.length());
            CHECKS.fault(more + "  ", MANY, more.length() + 2);
            // 72 is the least above 64 that up to 4 moves in a set can give.
            String seventyTwo = "?(1/2:" + p + "1([1],[2],[3]),1/2:?(1/3:" + p + "2([1],[2],[3]),1/3:" + p
                    + "3([1],[2],[3],[4]),1/3:" + p + "4([1],[2])))";
            CHECKS.fault(seventyTwo, MANY, seventyTwo.length());
            CHECKS.fine(seventyTwo.replace("4([1],[2])", "4([1])"));
        }
        CHECKS.fine("?(1/2:" + fourMoves('A', 3) + ",1/2:" + fourMoves('B', 3) + ")");
        String mostOfAll = fourMoves('A', 10);
        CHECKS.fault(mostOfAll, MANY, mostOfAll.length());
    }

    /** As many sets of four moves each, every one behind the last move of the one before. */
    private static String fourMoves(char player, int sets) {
        String next = sets > 1 ? fourMoves(player, sets - 1) : "[4]";
        return player + "" + sets + "([1],[2],[3]," + next + ")";
    }

    private static void commonNumberTooLarge() {
        CHECKS.sentence("6 LARGE, if the COMMON NUMBER is 1000000000 or more");
        CHECKS.fine("?(1/71:?(1/2251:[1/6257],2250/2251:[0]),70/71:[0])");
        CHECKS.fine(thin(MOST, "[1]"));
        CHECKS.fine("A1([1/71],[1/2251],[-1/6257])");
        String exact = "?(1/1000:?(1/1000:[1/1000],999/1000:[0]),999/1000:[0])";
        CHECKS.fault(exact, LARGE, exact.length());
        CHECKS.fault(exact + "   ", LARGE, exact.length() + 3);
        String ofEnds = "A1([1/512],?(1/3125:[1/625],3124/3125:[0]))";
        CHECKS.fault(ofEnds, LARGE, ofEnds.length());
        CHECKS.fine(ofEnds.replace("512", "256"));
        String next = "A1([1/258],[1/983],[1/3943])";
        CHECKS.fault(next, LARGE, next.length());
        String huge = "A1([1/9973],[1/9967],[1/9949],B1([1/9941],[1/9931],[1/9929],[1/9923]))";
        CHECKS.fault(huge, LARGE, huge.length());
        String one = thin(MOST, "[1/9973]");
        CHECKS.fault(one, LARGE, one.length());
        // 999999997 and some 10^13 have a common multiple that no long holds: it may wrap round to anything.
        for (int bottom = 9900; bottom <= 9999; bottom++) {
            String second = thin(new int[] {1000, 1000, 999}, "[1/" + bottom + "]");
            String wrapped = "A1(" + thin(MOST, "[1]") + "," + second + ")";
            CHECKS.fault(wrapped, LARGE, wrapped.length());
        }
    }

    private static void commonNumberIsLeast() {
        CHECKS.sentence("The COMMON NUMBER is the least D above 0 such that for all ends D times chance times what A "
            + "wins is whole");
        CHECKS.fine("?(1/1000:?(1/1000:[0/1000],999/1000:[0]),999/1000:[0])");
        CHECKS.fine("?(1/1000:?(1/1000:[2/1000],999/1000:[0]),999/1000:[0])");
        CHECKS.fine("?(1/1000:?(1/1000:[1000/1000],999/1000:[0]),999/1000:[0])");
        CHECKS.fine("?(1/9999:?(1/9998:[9998/9997],9997/9998:[0]),9998/9999:[0])");
        CHECKS.fine("?(1/1000:[1/1000],1/1000:[999/1000],998/1000:[0])");
        CHECKS.fine(thin(MOST, "[0/9973]"));
        CHECKS.fine("?(1/71:?(1/6257:[71/9973],6256/6257:[0]),70/71:[0])");
        // 1000/1009 * 1/999 * 1/1000: what stands above in the chance counts as well.
        CHECKS.fine("?(1000/1009:?(1/999:[1/1000],998/999:[0]),9/1009:[0])");
        CHECKS.fine("A1(?(1000/1009:?(1/999:[7/1000],998/999:[0]),9/1009:[0]),[1/991])");
        // The sum of two ends would do with less, but each end counts for itself.
        String each = "?(1/1000:?(1/2:?(1/500:[1/1000],499/500:[0]),1/2:?(1/500:[-1/1000],499/500:[0])),999/1000:[0])";
        CHECKS.fault(each, LARGE, each.length());
    }

    private static void weightTooLarge() {
        CHECKS.sentence("or the size of an end's WEIGHT is");
        for (String sign : new String[] {"", "-"}) {
            // 999999997 = 6257 * 159821, 1000000000 = 2500 * 400000
            CHECKS.fine("A1([" + sign + "6257],[1/71],[1/2251])");
            String exact = "A1([" + sign + "2500],[1/3125],[1/128])";
            CHECKS.fault(exact, LARGE, exact.length());
            CHECKS.fault(exact + " ", LARGE, exact.length() + 1);
            CHECKS.fine(exact.replace("2500", "2499"));
            String last = "A1([1/3125],[1/128],?(1/2:[" + sign + "5000],1/2:[0]))";
            CHECKS.fault(last, LARGE, last.length());
            CHECKS.fine(last.replace("5000", "4999"));
            String far = "A1([" + sign + "9999],[1/71],?(1/6257:[1/2251],6256/6257:[0]))";
            CHECKS.fault(far, LARGE, far.length());
            // Each end for itself: their sum may be more.
            CHECKS.fine("A1(?(1/2:[" + sign + "2499],1/2:[" + sign + "2499]),[1/3125],[1/64])");
            CHECKS.fine("B1(?(1/4:[" + sign + "9997],3/4:[" + sign + "3332]),[1/3125],[1/128])");
        }
    }

    private static void orderAtEnd() {
        CHECKS.sentence("At the text's end: 2 MANY ..; 6 LARGE");
        String plans = "A1(A2(A3([1],[2],[3],[4]),[1],[2],[3]),[%s],[1/3125],A4([1/128],[3]))";
        String text = plans.replace("%s", "2500");
        CHECKS.fault(text, MANY, text.length());
        String fewer = text.replace("A4([1/128],[3])", "[1/128]");
        CHECKS.fault(fewer, LARGE, fewer.length());
        String ofB = text.replace('A', 'B');
        CHECKS.fault(ofB, MANY, ofB.length());
    }

    private static void endComesLast() {
        CHECKS.sentence("the first of these, as it is gone through: .. At the text's end");
        String plans = "A1(A2(A3([1],[2],[3],[4]),[1],[2],[3]),[1],[2],A4([1],[2]))";
        CHECKS.fault("?(1/2:" + plans + ",1/2:[1/0])", NUMBER, plans.length() + 12);
        CHECKS.fault("?(1/2:" + plans + ",1/3:[1])", NUMBER, 0);
        CHECKS.fault("?(1/2:[2500],1/2:A1([1/3125],[1/128],[1],[2],[3]))", MANY, 17);
        CHECKS.fault("?(1/1000:?(1/1000:[1/1000],999/1000:[0]),998/1000:[0])", NUMBER, 0);
    }
}
