/** The sentences on THE TEXT, its words and what is NONE OF IT, one by one. */
public final class TextEdgesTest {
    private static final Checks CHECKS = new Checks();

    /** What a text may begin with, and the words that may stand behind that; N is a number. */
    private static final String[][] DUE = {
        {"", "[?AB"}, {"A1(", "[?AB"}, {"B1(", "[?AB"}, {"A1([1],", "[?AB"}, {"?(1:", "[?AB"},
        {"?(1/2:[1],1/2:", "[?AB"}, {"A1(?(1:[1]),", "[?AB"}, {"?(1:A1([1],", "[?AB"},
        {"A", "N"}, {"B", "N"}, {"A1(B", "N"},
        {"A1", "("}, {"B0", "("}, {"?", "("}, {"?(1:?", "("},
        {"[", "-N"}, {"A1([", "-N"}, {"?(", "-N"}, {"?(1/2:[1],", "-N"}, {"A1(?(", "-N"}, {"?(1:A1([1]),", "-N"},
        {"[-", "N"}, {"?(-", "N"}, {"?(1:[1],-", "N"},
        {"[1", "/]"}, {"[-1", "/]"}, {"A1([1", "/]"}, {"?(1:[1", "/]"}, {"?(1", "/:"}, {"?(-1", "/:"},
        {"?(1:[1],1", "/:"},
        {"[1/", "N"}, {"[-1/", "N"}, {"?(1/", "N"},
        {"[1/2", "]"}, {"[-1/2", "]"}, {"?(1:[1/2", "]"}, {"?(1/2", ":"}, {"?(1:[1],1/2", ":"},
        {"A1([1]", ",)"}, {"?(1:[1]", ",)"}, {"A1(B1([1])", ",)"}, {"A1([1],B1([1])", ",)"}, {"?(1:?(1:[1])", ",)"},
        {"A1(?(1:[1])", ",)"}, {"?(1:A1([1])", ",)"},
        {"[1]", ""}, {"[1/2]", ""}, {"A1([1])", ""}, {"?(1:[1])", ""}, {"A1(?(1:[1]))", ""}, {"?(1:A1([1]))", ""}};

    public static void main(String[] args) {
        length();
        characters();
        blanks();
        numbers();
        wordsThatCanStand();
        endsTooEarly();
        grammarOfBrackets();
        setsByValue();
        movesFromZero();
        CHECKS.finish();
    }

    private static void length() {
        CHECKS.sentence("THE TEXT has at most 4000 characters");
        String end = "[1]";
        for (int length : new int[] {3999, 4000}) {
            CHECKS.fine(" ".repeat(length - 3) + end);
            CHECKS.fine(end + " ".repeat(length - 3));
            CHECKS.fault(" ".repeat(length), 1, length);
            CHECKS.fault(" ".repeat(length - 1) + "x", 1, length - 1);
        }
        HiddenMoves x = new HiddenMoves();
        Checks.type(x, " ".repeat(3998));
        CHECKS.due("3 more than 3998", x.type('[' << 16 | '1' << 8 | ']', 3), -1);
        CHECKS.due("2 more than 3998", x.type('[' << 8 | '1', 2), 4000);
        CHECKS.due("1 more than 4000", x.type(']', 1), -1);
        CHECKS.due("nothing was put", x.read(), 1);
        CHECKS.due("it ends too early", x.place(), 4000);
    }

    private static void characters() {
        CHECKS.sentence("characters (32 .. 126)");
        for (int c = 0; c < 256; c++) {
            HiddenMoves x = new HiddenMoves();
            boolean isTaken = c >= 32 && c <= 126;
            CHECKS.due("character " + c, x.type(c, 1), isTaken ? 1 : -1);
            CHECKS.due("behind another " + c, x.type('[' << 8 | c, 2), isTaken ? 3 : -1);
            CHECKS.due("before another " + c, x.type((long) c << 8 | '[', 2), isTaken ? 5 : -1);
            CHECKS.due("first of eight " + c, x.type((long) c << 56 | 0x20202020202020L, 8), isTaken ? 13 : -1);
        }
    }

    private static void blanks() {
        CHECKS.sentence("Blanks stand for nothing.");
        String tight = "?(1/3:A7([-12/5],B1([3],[4])),2/3:[0])";
        HiddenMoves want = Checks.game(tight);
        want.solve();
        for (String gap : new String[] {" ", "   "}) {
            String wide = tight.replaceAll("([^0-9]|[0-9]+)", gap + "$1") + gap;
            HiddenMoves x = Checks.game(wide);
            x.solve();
            CHECKS.due("nodes of " + wide, x.count(0), want.count(0));
            CHECKS.due("number in " + wide, x.set(1, 0, 1), 7);
            CHECKS.due("value of " + wide, Checks.printed(x, 0), Checks.printed(want, 0));
        }
        CHECKS.fault("[1 2]", 1, 3);
        CHECKS.fault("A1 2([1])", 1, 3);
        CHECKS.fault("  [ 1 / 0 ]", 3, 4);
    }

    private static void numbers() {
        CHECKS.sentence("a NUMBER, decimal digits, 4 at most (more of them are no word)");
        String[] before = {"A", "B", "[", "[-", "[1/", "?(", "?(1/", "A1([1],[", "?(1/2:[", "?(1/2:[1],1/"};
        for (String begin : before) {
            for (String taken : new String[] {"0", "7", "12", "123", "0001", "9999", "0000"}) {
                CHECKS.fault(begin + taken + "~", 1, begin.length() + taken.length());
            }
            for (String refused : new String[] {"10000", "00001", "00000", "99999", "123456789", "4294967297"}) {
                CHECKS.fault(begin + refused + "~", 1, begin.length());
            }
        }
        HiddenMoves x = Checks.game("A9999([9999],[0001/9999])");
        x.solve();
        CHECKS.due("largest set", x.set(1, 0, 1), 9999);
        CHECKS.due("largest top", Checks.printed(x, 0), "9999");
        x.tell(1, 0, 0, 0, 1);
        x.tell(1, 0, 1, 1, 1);
        x.expect();
        CHECKS.due("largest bottom", Checks.printed(x, 1), "1/9999");
    }

    /** Behind each word comes one that is none, so the place tells whether the word itself could stand. */
    private static void wordsThatCanStand() {
        CHECKS.sentence("1 NONE OF IT: the first word that can't stand, or is none, where it begins");
        for (String[] due : DUE) {
            for (int c = 33; c <= 126; c++) {
                if (c < '0' || c > '9') {
                    lookAtWord(due[0], "" + (char) c, due[1].indexOf(c) >= 0 && c != 'N');
                }
            }
            lookAtWord(due[0], "0", due[1].contains("N"));
            lookAtWord(due[0], "1234", due[1].contains("N"));
            lookAtWord(due[0], "12345", false);
        }
    }

    private static void lookAtWord(String before, String word, boolean canStand) {
        String begin = before + " ";
        CHECKS.fault(begin + word + "~", 1, begin.length() + (canStand ? word.length() : 0));
    }

    private static void endsTooEarly() {
        CHECKS.sentence("the text's length, if it ends too early");
        for (String[] due : DUE) {
            boolean isWhole = due[1].isEmpty();
            for (int blanks = 0; blanks < 3; blanks++) {
                String text = due[0] + " ".repeat(blanks);
                CHECKS.fault(text, isWhole ? 0 : 1, isWhole ? -1 : text.length());
            }
        }
        CHECKS.fault("?(1/2:A1([1],B1([2],[3])", 1, 24);
    }

    private static void grammarOfBrackets() {
        CHECKS.sentence("text = node");
        for (int open = 1; open < 20; open++) {
            String begin = "A1(?(1:B1(".repeat(7).substring(0, bracketsEnd(open));
            CHECKS.fault(begin + "[1]" + ")".repeat(open - 1), 1, begin.length() + 3 + open - 1);
            CHECKS.fault(begin + "[1]" + ")".repeat(open + 1), 1, begin.length() + 3 + open);
        }
        CHECKS.fault("[1],[2]", 1, 3);
        CHECKS.fault("A1([1]),A2([1])", 1, 7);
        CHECKS.fault("?(1/2:A1([1],1/2:[1]))", 1, 13);
        CHECKS.fault("A1(?(1/2:[1],[2]))", 1, 13);
        CHECKS.fault("?(1/2:[1],1/2:A1([1]),[2])", 1, 22);
    }

    private static int bracketsEnd(int open) {
        String text = "A1(?(1:B1(".repeat(7);
        int end = 0;
        for (int i = 0; i < open; i++) {
            end = text.indexOf('(', end) + 1;
        }
        return text.startsWith("1:", end) ? end + 2 : end;
    }

    private static void setsByValue() {
        CHECKS.sentence("(by its value: A7 and A07 are one; A's sets and B's sets apart)");
        HiddenMoves x = Checks.game("B7(A7([1],[2]),A07([3],[4]),B0(A007([5],[6]),A0007([7],[8])),A70([9]))");
        CHECKS.dueAll("sets", new int[] {x.sets(1), x.sets(2)}, 2, 2);
        CHECKS.dueAll("numbers", new int[] {x.set(1, 0, 1), x.set(1, 1, 1), x.set(2, 0, 1), x.set(2, 1, 1)},
            7, 70, 7, 0);
        CHECKS.fine("?(1/2:A0([1],[2]),1/2:A0000([1],[2]))");
        CHECKS.fault("?(1/2:A0([1],[2]),1/2:A0000([1]))", 5, 22);
        CHECKS.fine("?(1/2:A1([1],[2]),1/2:A10([1]))");
        CHECKS.fine("A1(B1([1],[2],[3]),[4])");
    }

    private static void movesFromZero() {
        CHECKS.sentence("its MOVES are the nodes in its brackets, counted from 0");
        HiddenMoves x = Checks.game("A1([10],[11],[12],[13])");
        for (int i = 0; i < 4; i++) {
            for (int j = 0; j < 4; j++) {
                x.tell(1, 0, j, i == j ? 1 : 0, 1);
            }
            x.expect();
            CHECKS.due("move " + i, Checks.printed(x, 1), "1" + i);
        }
        CHECKS.dueThrow("move 4", () -> x.tell(1, 0, 4, 0, 1), "IndexOutOfBoundsException");
        CHECKS.dueThrow("move -1", () -> x.tell(1, 0, -1, 0, 1), "IndexOutOfBoundsException");
    }
}
