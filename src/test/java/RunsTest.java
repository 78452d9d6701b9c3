import java.util.List;
import java.util.Random;

/** Runs of 512 calls, with right and wrong arguments in every state, against the model. Arguments: runs, first seed. */
public final class RunsTest {
    private static final Checks CHECKS = new Checks();
    private static final int CALLS = 512;
    private static final int[] EDGES = {Integer.MIN_VALUE, -10000, -2, 5, 9, 10, 11, 256, 512, 9999, 10000,
        Integer.MAX_VALUE};

    private static final List<String> TEXTS = List.of(
        "[7/3]", "[0]", "A1([1],[2])", "B1([1],[2],[-3])", "?(1/2:[1],1/2:[2/3])", "A1(B1([3],[0]),B1([1],[2]))",
        "A1(B1([1],[2]),B2([4],[3]))", "A1(A2([1],[2],[2]),B1([3],[3],A3([3],[4])))",
        "?(1/3:A7(B1([3],[1],A12(A0([1]),[2])),B2([2],[0])),2/3:A9999(B1([-1],[4],[5]),B2([1],[1/2]),[7]))",
        "?(1/2:A1([1],B1([2],[-2])),1/2:A2([-1],B1([-2],[2])))", "B1(A1([0],[1]),A1([1],[0]),A1([1/2],[1/2]))",
        "A1(A2([1],[2]),A2([1],[2]))", "A1([1],A1([2]))", "B1(A5([1]),A5([2],[3]))", "[1/0]", "?(1/2:[1])", "?(2:[1])",
        "A1([1],[2],[3],[4],[5])", "?(1/1000:?(1/1000:?(1/1000:[1])))", "A1([2500],[1/3125],[1/128])", "A1([1]", "x",
        "[12345]", "A1(A2(A3([1],[2],[3],[4]),[1],[2],[3]),[1],[2],A4([1],[2]))",
        "?(1:?(1:?(1:?(1:?(1:?(1:?(1:?(1:?(1:?(1:?(1:?(1:?(1:?(1:?(1:?(1:?(1:?(1:?(1:?(1:?(1:[1])))))))))))))))))))))");

    private final Random random;
    private final HiddenMoves real = new HiddenMoves();
    private final Model model = new Model();
    private final String name;
    private int calls = 0;

    private RunsTest(long seed) {
        random = new Random(seed);
        name = "run " + seed;
    }

    public static void main(String[] args) {
        int n = args.length > 0 ? Integer.parseInt(args[0]) : 150;
        long first = args.length > 1 ? Long.parseLong(args[1]) : 1;
        for (long seed = first; seed < first + n; seed++) {
            RunsTest run = new RunsTest(seed);
            while (run.calls < CALLS) {
                run.goOn();
            }
        }
        CHECKS.finish();
    }

    private void due(String call, long got, long want) {
        calls++;
        CHECKS.due(name + ", call " + calls + " " + call, got, want);
    }

    private void dueThrow(String call, Runnable got, Runnable want) {
        calls++;
        CHECKS.due(name + ", call " + calls + " " + call, thrown(got), thrown(want));
    }

    private static String thrown(Runnable call) {
        try {
            call.run();
            return "nothing";
        } catch (RuntimeException e) {
            return e.getClass().getName();
        }
    }

    /** Mostly from least to most, sometimes one beside them, rarely far off. */
    private int near(int least, int most) {
        if (random.nextInt(40) == 0) {
            return EDGES[random.nextInt(EDGES.length)];
        }
        if (random.nextInt(12) == 0) {
            return random.nextBoolean() ? least - 1 : most + 1;
        }
        return least + random.nextInt(Math.max(1, most - least + 1));
    }

    private void goOn() {
        switch (random.nextInt(20)) {
            case 0:
                typeAndRead();
                break;
            case 1:
                typeWrongly();
                break;
            case 2:
                look();
                break;
            case 3:
            case 4:
            case 5:
                tell();
                break;
            case 6:
            case 7:
                tellSet();
                break;
            case 8:
                due("check", real.check(), model.check());
                break;
            case 9:
            case 10:
            case 11:
                work();
                break;
            case 12:
            case 13:
                int player = near(1, 2);
                int set = near(0, 3);
                due("reply " + player + " " + set, real.reply(player, set), model.reply(player, set));
                break;
            case 14:
            case 15:
                int what = near(0, 3);
                due("print " + what, real.print(what), model.print(what));
                break;
            case 16:
            case 17:
                int i = near(0, 5);
                due("character " + i, real.character(i), model.character(i));
                break;
            default:
                int one = near(0, 3);
                int with = near(0, 3);
                due("compare " + one + " " + with, real.compare(one, with), model.compare(one, with));
        }
    }

    private void type(long characters, int n) {
        due("type " + characters + " " + n, real.type(characters, n), model.type(characters, n));
    }

    private void typeAndRead() {
        String text = TEXTS.get(random.nextInt(TEXTS.size()));
        for (int i = 0; i < text.length();) {
            int n = Math.min(text.length() - i, 5 + random.nextInt(4));
            long characters = random.nextInt(4) == 0 ? random.nextLong() : 0;
            for (int j = 0; j < n; j++) {
                characters = characters << 8 | text.charAt(i + j);
            }
            type(characters, n);
            i += n;
            if (random.nextInt(30) == 0) {
                goOn();
            }
        }
        due("read of " + text, real.read(), model.read());
        due("place", real.place(), model.place());
    }

    private void typeWrongly() {
        int n = near(1, 8);
        type(random.nextInt(3) == 0 ? random.nextLong() : 0x2020202020202020L, n);
        if (random.nextInt(3) == 0) {
            due("read", real.read(), model.read());
        }
    }

    private void look() {
        int what = near(0, 3);
        int player = near(1, 2);
        int set = near(0, 3);
        int kind = near(0, 2);
        due("place", real.place(), model.place());
        due("count " + what, real.count(what), model.count(what));
        due("sets " + player, real.sets(player), model.sets(player));
        due("plans " + player, real.plans(player), model.plans(player));
        due("good " + player, real.good(player), model.good(player));
        due("set " + player + " " + set + " " + kind, real.set(player, set, kind), model.set(player, set, kind));
    }

    private void tell() {
        int player = near(1, 2);
        int set = near(0, Math.max(0, model.sets(player) - 1));
        tellOne(player, set, near(0, Math.max(0, model.set(player, set, 0) - 1)), near(0, 2), near(1, 3));
    }

    private void tellOne(int player, int set, int move, int top, int bottom) {
        dueThrow("tell " + player + " " + set + " " + move + " " + top + " " + bottom,
            () -> real.tell(player, set, move, top, bottom), () -> model.tell(player, set, move, top, bottom));
    }

    /** A whole set, so that the way is good again. */
    private void tellSet() {
        int player = 1 + random.nextInt(2);
        for (int set = 0; set < model.sets(player); set++) {
            int bottom = 1 + random.nextInt(random.nextBoolean() ? 4 : 9999);
            int left = bottom;
            int moves = model.set(player, set, 0);
            for (int i = 0; i < moves; i++) {
                int top = i == moves - 1 ? left : random.nextInt(left + 1);
                left -= top;
                tellOne(player, set, i, top, bottom);
            }
        }
    }

    private void work() {
        switch (random.nextInt(4)) {
            case 0:
                dueThrow("solve", real::solve, model::solve);
                break;
            case 1:
                dueThrow("expect", real::expect, model::expect);
                break;
            default:
                int player = near(1, 2);
                dueThrow("judge " + player, () -> real.judge(player), () -> model.judge(player));
        }
    }
}
