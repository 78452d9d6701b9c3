import java.util.ArrayList;
import java.util.List;
import java.util.function.Consumer;
import java.util.function.Supplier;

/**
 * What stays and what goes. Two objects are brought to the same state; one has to bear a refused call or a read, and
 * then all that can be asked is asked of both.
 */
public final class StayTest {
    private static final Checks CHECKS = new Checks();
    private static final String GAME = "?(1/2:A3(B4([3],[0],[1]),B4([1],[2],[-5/3])),1/2:B6(A5([4],[7]),[1]))";
    private static final String OTHER = "B4(A3([1],[-2]),A3([0],[1/7]),B6([9]))";
    private static final String[] FAULTS = {"[1", "A1([1],[2],[3],[4],[5])", "A3([1],[1/0])", "A3([1],A3([1]))",
        "B4(A5([1]),A5([1],[2]))", "A1([2500],[1/3125],[1/128])"};
    private static final int[] FAR = {Integer.MIN_VALUE, -1, 0, 3, 4, 10, 10000, Integer.MAX_VALUE};

    public static void main(String[] args) {
        refusedTypes();
        refusedAnswers();
        thrown();
        readWithFault();
        readEmptyText();
        readWithoutFault();
        readTheSameGame();
        readManyGames();
        tellKeepsAll();
        workKeepsTheOthers();
        printChangesOnlyPrinted();
        CHECKS.finish();
    }

    private static HiddenMoves typed() {
        HiddenMoves x = new HiddenMoves();
        Checks.type(x, "?(1/2:[3],");
        return x;
    }

    private static HiddenMoves behindFault() {
        HiddenMoves x = new HiddenMoves();
        Checks.read(x, "A1([1],[1/0])");
        Checks.type(x, "[4");
        return x;
    }

    private static HiddenMoves justRead() {
        HiddenMoves x = Checks.game(GAME);
        Checks.type(x, "[5");
        return x;
    }

    private static void mix(HiddenMoves x) {
        x.tell(1, 0, 0, 1, 3);
        x.tell(1, 0, 1, 2, 3);
        x.tell(2, 0, 0, 2, 7);
        x.tell(2, 0, 2, 5, 7);
    }

    private static void workAll(HiddenMoves x) {
        x.solve();
        x.expect();
        x.judge(1);
        x.judge(2);
    }

    /** Worked out by other ways than those that are told now, printed, typed, and with a fault behind it. */
    private static HiddenMoves full() {
        HiddenMoves x = Checks.game(GAME);
        mix(x);
        workAll(x);
        x.tell(2, 0, 0, 5, 7);
        x.tell(2, 0, 2, 2, 7);
        x.print(1);
        Checks.read(x, "?(1/2:[3],x");
        Checks.type(x, "A7([1],");
        return x;
    }

    private static HiddenMoves notGood() {
        HiddenMoves x = full();
        x.tell(1, 1, 1, 1, 9999);
        x.tell(2, 1, 0, 0, 1);
        return x;
    }

    private static List<Supplier<HiddenMoves>> states() {
        return List.of(HiddenMoves::new, StayTest::typed, StayTest::behindFault, StayTest::justRead, StayTest::full,
            StayTest::notGood);
    }

    /** All that can be asked; in the end also what the text becomes. */
    private static List<String> answers(HiddenMoves x) {
        List<String> answers = new ArrayList<>(quietAnswers(x));
        answers.add("place " + x.place());
        addWorks(answers, x);
        answers.add("length " + x.type(' ', 1));
        answers.add("read " + x.read() + " at " + x.place());
        return answers;
    }

    /** Without the text and the place of a fault. */
    private static List<String> quietAnswers(HiddenMoves x) {
        List<String> answers = new ArrayList<>();
        answers.add("printed " + Checks.lastPrinted(x));
        for (int i = 0; i < 4; i++) {
            answers.add("count " + i + ": " + x.count(i));
            for (int j = 0; j < 4; j++) {
                answers.add("compare " + i + " " + j + ": " + x.compare(i, j));
            }
        }
        for (int player = 1; player <= 2; player++) {
            answers.add("player " + player + ": " + x.sets(player) + " " + x.plans(player) + " " + x.good(player));
            for (int set = 0; set < 4; set++) {
                answers.add("set " + set + ": " + x.set(player, set, 0) + " " + x.set(player, set, 1) + " "
                    + x.set(player, set, 2));
                answers.add("reply " + player + " " + set + ": " + x.reply(player, set));
            }
        }
        answers.add("check " + x.check());
        for (int i = 0; i < 4; i++) {
            answers.add("print " + i + ": " + Checks.printed(x, i));
        }
        return answers;
    }

    /** The ways show in what is worked out with them. */
    private static void addWorks(List<String> answers, HiddenMoves x) {
        List<Consumer<HiddenMoves>> works = List.of(HiddenMoves::expect, y -> y.judge(1), y -> y.judge(2),
            HiddenMoves::solve);
        for (Consumer<HiddenMoves> work : works) {
            answers.add("works: " + thrown(x, work));
        }
        for (int player = 1; player <= 2; player++) {
            for (int set = 0; set < 4; set++) {
                answers.add("reply then " + player + " " + set + ": " + x.reply(player, set));
            }
        }
        for (int i = 0; i < 4; i++) {
            answers.add("print then " + i + ": " + Checks.printed(x, i));
        }
    }

    private static String thrown(HiddenMoves x, Consumer<HiddenMoves> call) {
        try {
            call.accept(x);
            return "nothing";
        } catch (RuntimeException e) {
            return e.getClass().getSimpleName();
        }
    }

    private static void dueSame(String what, List<String> got, List<String> want) {
        CHECKS.due(what + ": how many", got.size(), want.size());
        for (int i = 0; i < want.size(); i++) {
            CHECKS.due(what, got.get(i), want.get(i));
        }
    }

    /** In every state; whether the call is refused there is told by what it throws, or by "nothing". */
    private static void changesNothing(String what, Supplier<HiddenMoves> state, Consumer<HiddenMoves> call) {
        HiddenMoves touched = state.get();
        call.accept(touched);
        dueSame(what, answers(touched), answers(state.get()));
    }

    private static void refusedTypes() {
        CHECKS.sentence("NONE, and nothing is put, when n is not 1 .. 8, one is not 32 .. 126, or there would be more "
            + "than 4000.");
        for (Supplier<HiddenMoves> state : states()) {
            for (int n : new int[] {Integer.MIN_VALUE, -1, 0, 9, 4000, Integer.MAX_VALUE}) {
                changesNothing("type of " + n, state, x -> CHECKS.due("n " + n, x.type(0x2020202020202020L, n), -1));
            }
            for (long c : new long[] {0x201F, 0x1F20, 0x207F, 0x7F20, 0x2000, 0x80, -1}) {
                changesNothing("type of " + c, state, x -> CHECKS.due("type " + c, x.type(c, 2), -1));
            }
        }
        Supplier<HiddenMoves> nearlyFull = () -> {
            HiddenMoves x = Checks.game(GAME);
            Checks.type(x, "A1([1],[2])" + " ".repeat(3986));
            return x;
        };
        changesNothing("4 more than 3997", nearlyFull, x -> CHECKS.due("4001", x.type(0x20202020L, 4), -1));
        changesNothing("8 more than 3997", nearlyFull, x -> CHECKS.due("4005", x.type(0x2020202020202020L, 8), -1));
    }

    private static void refusedAnswers() {
        CHECKS.sentence("NONE when there is none such");
        for (Supplier<HiddenMoves> state : states()) {
            changesNothing("asked for what is not there", state, x -> {
                for (int far : FAR) {
                    x.character(far == 0 ? -2 : far);
                    x.set(far, far, far);
                    x.set(1, far == 0 || far == 3 ? 9 : far, 0);
                    x.reply(far == 0 ? 5 : far, far);
                    x.sets(far);
                    x.plans(far);
                    x.good(far);
                    x.compare(far, far);
                }
                for (int what : new int[] {Integer.MIN_VALUE, -1, 4, Integer.MAX_VALUE}) {
                    CHECKS.due("count " + what, x.count(what), -1);
                    CHECKS.due("print " + what, x.print(what), -1);
                    CHECKS.due("compare " + what, x.compare(what, what), -2);
                }
                x.place();
                x.check();
            });
        }
    }

    private static void thrown() {
        CHECKS.sentence("What throws changes nothing.");
        List<Consumer<HiddenMoves>> always = new ArrayList<>();
        List<Consumer<HiddenMoves>> withoutGame = List.of(HiddenMoves::solve, HiddenMoves::expect, x -> x.judge(1),
            x -> x.judge(2), x -> x.tell(1, 0, 0, 0, 1), x -> x.tell(2, 0, 0, 0, 1));
        List<Consumer<HiddenMoves>> whenNotGood = List.of(HiddenMoves::expect, x -> x.judge(1), x -> x.judge(2));
        for (int player : new int[] {Integer.MIN_VALUE, -1, 0, 3, Integer.MAX_VALUE}) {
            always.add(x -> x.judge(player));
            always.add(x -> x.tell(player, 0, 0, 0, 1));
        }
        for (int far : new int[] {Integer.MIN_VALUE, -1, 3, 4, 10, Integer.MAX_VALUE}) {
            always.add(x -> x.tell(1, far, 0, 0, 1));
            always.add(x -> x.tell(2, 0, far, 0, 1));
        }
        for (int wrong : new int[] {Integer.MIN_VALUE, -1, 10000, Integer.MAX_VALUE}) {
            always.add(x -> x.tell(1, 0, 0, 0, wrong));
            always.add(x -> x.tell(2, 0, 1, wrong, 9999));
        }
        always.add(x -> x.tell(1, 0, 0, 0, 0));
        always.add(x -> x.tell(1, 1, 1, 3, 2));
        for (Supplier<HiddenMoves> state : states()) {
            throwsAndKeeps(state, always);
        }
        for (int i = 0; i < 3; i++) {
            throwsAndKeeps(states().get(i), withoutGame);
        }
        throwsAndKeeps(states().get(5), whenNotGood);
    }

    private static void throwsAndKeeps(Supplier<HiddenMoves> state, List<Consumer<HiddenMoves>> calls) {
        for (int i = 0; i < calls.size(); i++) {
            Consumer<HiddenMoves> call = calls.get(i);
            String what = "call " + i;
            changesNothing(what, state, x -> CHECKS.due(what, thrown(x, call).equals("nothing") ? 1 : 0, 0));
        }
    }

    private static void readWithFault() {
        CHECKS.sentence("or its fault (the game there was stays, and all that was worked out); the text is empty then");
        for (Supplier<HiddenMoves> state : states()) {
            for (int i = 0; i < FAULTS.length; i++) {
                HiddenMoves touched = state.get();
                HiddenMoves left = state.get();
                touched.read();
                left.read();
                CHECKS.due("fault of " + FAULTS[i], Checks.read(touched, FAULTS[i]), new int[] {1, 2, 3, 4, 5, 6}[i]);
                CHECKS.due("the text is empty", touched.type(' ', 1), 1);
                left.type(' ', 1);
                dueSame("quiet behind " + FAULTS[i], quietAnswers(touched), quietAnswers(left));
                List<String> works = new ArrayList<>();
                List<String> due = new ArrayList<>();
                addWorks(works, touched);
                addWorks(due, left);
                dueSame("works behind " + FAULTS[i], works, due);
            }
        }
    }

    private static void readEmptyText() {
        CHECKS.sentence("the text is empty then in any case");
        HiddenMoves touched = full();
        HiddenMoves left = full();
        CHECKS.due("none of it", touched.read(), 1);
        left.read();
        for (int i = 0; i < 3; i++) {
            CHECKS.due("the empty text", touched.read(), 1);
            CHECKS.due("at its length", touched.place(), 0);
        }
        dueSame("the empty text", quietAnswers(touched), quietAnswers(left));
    }

    private static void readWithoutFault() {
        CHECKS.sentence("With 0 all that was worked out is gone (what was printed stays), and both ways are as at "
            + "first.");
        for (Supplier<HiddenMoves> state : states()) {
            HiddenMoves touched = state.get();
            String printed = Checks.lastPrinted(touched);
            touched.read();
            CHECKS.due("read", Checks.read(touched, OTHER), 0);
            CHECKS.due("no place", touched.place(), -1);
            CHECKS.due("what was printed stays", Checks.lastPrinted(touched), printed);
            List<String> got = answers(touched);
            List<String> want = answers(Checks.game(OTHER));
            dueSame("as a new object has it", got.subList(1, got.size()), want.subList(1, want.size()));
        }
    }

    private static void readTheSameGame() {
        CHECKS.sentence("With 0 all that was worked out is gone, even if the text is the same");
        HiddenMoves x = full();
        x.read();
        CHECKS.due("again", Checks.read(x, GAME), 0);
        for (int i = 0; i < 4; i++) {
            CHECKS.due("gone " + i, x.print(i), -1);
        }
        CHECKS.dueAll("no replies, no check", new int[] {x.reply(1, 0), x.reply(2, 0), x.check()}, -1, -1, -1);
        HiddenMoves fresh = Checks.game(GAME);
        workAll(x);
        workAll(fresh);
        for (int i = 0; i < 4; i++) {
            CHECKS.due("with the first ways " + i, Checks.printed(x, i), Checks.printed(fresh, i));
        }
    }

    /** Of the games before, with more or fewer sets, moves and ends, nothing is left; nor of texts with a fault. */
    private static void readManyGames() {
        CHECKS.sentence("The text becomes the game");
        String[] texts = {"A1([1],[2],[3],[4])", "A1([5])", "A1([-3],[6])", "[7/3]", GAME, OTHER, "B1([8],[9],[4])",
            "?(1/71:?(1/2251:[1/6257],2250/2251:[0]),70/71:[0])", "A1([1/1000],[-999])", "B1(A1([3],[0]),A1([1],[2]))",
            "A1(B1([1],[0],[0]),B1([0],[1],[0]),B1([0],[0],[1]))", "A1(A2(A3([1],[2]),B2([4],[3])),B3([-1],[2]))"};
        HiddenMoves x = new HiddenMoves();
        for (int step = 1; step < texts.length; step++) {
            for (int i = 0; i < 2 * texts.length; i++) {
                String text = texts[i * step % texts.length];
                if (i % 3 == 0) {
                    CHECKS.due("a fault", Checks.read(x, FAULTS[i % FAULTS.length]), 1 + i % FAULTS.length);
                }
                CHECKS.due("fault of " + text, Checks.read(x, text), 0);
                List<String> got = answers(x);
                List<String> want = answers(Checks.game(text));
                dueSame("of " + text, got.subList(1, got.size()), want.subList(1, want.size()));
                tellLast(x);
            }
        }
    }

    /** So that both ways are not as at first when the next text is read. */
    private static void tellLast(HiddenMoves x) {
        for (int player = 1; player <= 2; player++) {
            for (int set = 0; set < x.sets(player); set++) {
                x.tell(player, set, 0, 2, 7);
                x.tell(player, set, x.set(player, set, 0) - 1, 5, 7);
            }
        }
    }

    private static void tellKeepsAll() {
        CHECKS.sentence("(what was worked out, and replies, stay as they are)");
        HiddenMoves touched = Checks.game(GAME);
        HiddenMoves left = Checks.game(GAME);
        for (HiddenMoves x : List.of(touched, left)) {
            mix(x);
            workAll(x);
        }
        touched.tell(1, 0, 0, 2, 3);
        touched.tell(1, 0, 1, 1, 3);
        touched.tell(2, 1, 0, 0, 1);
        touched.tell(2, 1, 1, 1, 1);
        dueSame("told, both good", quietAnswers(touched), quietAnswers(left));
        touched.tell(1, 0, 0, 0, 1);
        touched.tell(2, 0, 0, 0, 1);
        CHECKS.dueAll("not good", new int[] {touched.good(1), touched.good(2)}, 0, 0);
        List<String> got = quietAnswers(touched);
        List<String> want = quietAnswers(left);
        got.removeIf(answer -> answer.startsWith("player"));
        want.removeIf(answer -> answer.startsWith("player"));
        dueSame("told, none good", got, want);
    }

    private static void workKeepsTheOthers() {
        CHECKS.sentence("as worked out latest since read()");
        HiddenMoves x = Checks.game(GAME);
        workAll(x);
        String[] before = new String[4];
        for (int i = 0; i < 4; i++) {
            before[i] = Checks.printed(x, i);
        }
        mix(x);
        HiddenMoves other = Checks.game(GAME);
        mix(other);
        workAll(other);
        List<Consumer<HiddenMoves>> works = List.of(HiddenMoves::solve, HiddenMoves::expect, y -> y.judge(1),
            y -> y.judge(2));
        for (int worked = 0; worked < 4; worked++) {
            works.get(worked).accept(x);
            for (int i = 0; i < 4; i++) {
                CHECKS.due("number " + i + " behind work " + worked, Checks.printed(x, i),
                    i <= worked ? Checks.printed(other, i) : before[i]);
            }
        }
        for (int i = 1; i < 4; i++) {
            CHECKS.due("the mixed ways give another number " + i, before[i].equals(Checks.printed(x, i)) ? 1 : 0, 0);
        }
    }

    private static void printChangesOnlyPrinted() {
        CHECKS.sentence("Prints a number");
        for (int what = 0; what < 4; what++) {
            HiddenMoves touched = full();
            HiddenMoves left = full();
            touched.print(what);
            touched.print(what);
            List<String> got = answers(touched);
            List<String> want = answers(left);
            dueSame("print " + what, got.subList(1, got.size()), want.subList(1, want.size()));
        }
    }
}
