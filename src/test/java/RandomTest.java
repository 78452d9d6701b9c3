import java.util.ArrayList;
import java.util.HashMap;
import java.util.List;
import java.util.Map;
import java.util.Random;

/** Games by a fixed row of numbers, each compared with the reference. Arguments: how many, first seed. */
public final class RandomTest {
    private static final Checks CHECKS = new Checks();
    /** Used again and again, so that what an earlier game leaves behind would show. */
    private static final HiddenMoves USED = new HiddenMoves();
    private static final String CHARACTERS = " 0123456789AB?()[]:,-/x";

    private final Random random;
    private final Map<String, Integer> numbers = new HashMap<>();
    private final Map<String, Integer> moves = new HashMap<>();
    private final int[] plans = {1, 1};
    private final int[] sets = {0, 0};
    private final int largest;
    private final boolean fractions;
    private final int depth;
    private int nodes = 0;

    private RandomTest(long seed) {
        random = new Random(seed);
        int[] sizes = {1, 3, 10, 100, 9999};
        largest = sizes[random.nextInt(sizes.length)];
        fractions = random.nextInt(4) == 0;
        depth = 2 + random.nextInt(6);
    }

    public static void main(String[] args) {
        int n = args.length > 0 ? Integer.parseInt(args[0]) : 400;
        long first = args.length > 1 ? Long.parseLong(args[1]) : 1;
        int games = 0;
        for (long seed = first; seed < first + n; seed++) {
            RandomTest test = new RandomTest(seed);
            String text = test.node(0, "", "");
            for (int i = 0; i < 6; i++) {
                test.compareFaults(test.changed(text));
            }
            games += test.compareFaults(text) ? 1 : 0;
        }
        for (int i = 0; i < Math.max(4, n / 50); i++) {
            RandomTest test = new RandomTest(first + i);
            String text = test.heavy(i);
            CHECKS.due("a game: " + text, test.compareFaults(text) ? 1 : 0, 1);
        }
        CHECKS.due("most of " + games + " texts are games", games * 2 > n ? 1 : 0, 1);
        CHECKS.finish();
    }

    private String blank() {
        return random.nextInt(40) == 0 ? " " : "";
    }

    private String end() {
        int win = random.nextInt(2 * largest + 1) - largest;
        String bottom = fractions && random.nextInt(3) == 0 ? "/" + (1 + random.nextInt(9)) : "";
        return blank() + "[" + blank() + win + bottom + blank() + "]";
    }

    private String node(int above, String deedsOfA, String deedsOfB) {
        nodes++;
        if (above >= depth || nodes > 120 || above > 0 && random.nextInt(5) == 0) {
            return end();
        }
        if (random.nextInt(4) == 0) {
            return draw(above, deedsOfA, deedsOfB);
        }
        return choice(above, deedsOfA, deedsOfB);
    }

    private String draw(int above, String deedsOfA, String deedsOfB) {
        int ways = 1 + random.nextInt(3);
        int bottom = ways + random.nextInt(random.nextInt(10) == 0 ? 9000 : 6);
        StringBuilder text = new StringBuilder("?(");
        int left = bottom;
        for (int i = 0; i < ways; i++) {
            int top = i == ways - 1 ? left : 1 + random.nextInt(left - (ways - 1 - i));
            left -= top;
            text.append(i == 0 ? "" : ",").append(top).append("/").append(bottom).append(blank()).append(":");
            text.append(node(above + 1, deedsOfA, deedsOfB));
        }
        return text.append(")").toString();
    }

    /** Who knows the same has one of two numbers, so that the players do recall what they did. */
    private String choice(int above, String deedsOfA, String deedsOfB) {
        int player = random.nextInt(2);
        String key = (player == 0 ? "A" + deedsOfA : "B" + deedsOfB) + "!" + random.nextInt(2);
        if (!numbers.containsKey(key)) {
            int many = 1 + random.nextInt(4);
            if (plans[player] * many > 64 || sets[player] == 10) {
                return end();
            }
            plans[player] *= many;
            sets[player]++;
            numbers.put(key, 100 * player + numbers.size() * 3 % 50);
            moves.put(key, many);
        }
        StringBuilder text = new StringBuilder(player == 0 ? "A" : "B").append(numbers.get(key)).append("(");
        for (int i = 0; i < moves.get(key); i++) {
            String deed = numbers.get(key) + "." + i + ";";
            text.append(i == 0 ? "" : ",").append(node(above + 1, player == 0 ? deedsOfA + deed : deedsOfA,
                player == 1 ? deedsOfB + deed : deedsOfB));
        }
        return text.append(")").toString();
    }

    /** As many plans as there may be, and weights up to near the limit. */
    private String heavy(int kind) {
        boolean fewOfA = kind % 2 == 0;
        boolean fewOfB = kind / 2 % 2 == 0;
        StringBuilder text = new StringBuilder();
        for (int i = 0; i < (fewOfA ? 3 : 6); i++) {
            text.append(i == 0 ? "?(" : ",").append(fewOfA ? "1/3" : "1/6");
            for (int j = 0; j < (fewOfB ? 3 : 6); j++) {
                text.append(j == 0 ? ":?(" : ",").append(fewOfB ? "1/3" : "1/6");
                text.append(":A").append(i).append(heavyMoves(j, fewOfA ? 4 : 2, fewOfB ? 4 : 2));
            }
            text.append(")");
        }
        return text.append(")").toString();
    }

    private String heavyMoves(int setOfB, int movesOfA, int movesOfB) {
        String[] bottoms = {"", "/32", "/3125"};
        StringBuilder text = new StringBuilder();
        for (int i = 0; i < movesOfA; i++) {
            text.append(i == 0 ? "(B" : ",B").append(setOfB);
            for (int j = 0; j < movesOfB; j++) {
                int win = random.nextInt(19999) - 9999;
                text.append(j == 0 ? "([" : ",[").append(win).append(bottoms[random.nextInt(3)]).append("]");
            }
            text.append(")");
        }
        return text.append(")").toString();
    }

    private String changed(String text) {
        StringBuilder changed = new StringBuilder(text);
        for (int i = random.nextInt(3); i >= 0; i--) {
            int at = random.nextInt(changed.length());
            char c = CHARACTERS.charAt(random.nextInt(CHARACTERS.length()));
            int kind = random.nextInt(8);
            if (kind == 0) {
                changed.insert(at, c);
            } else if (kind == 1 && changed.length() > 1) {
                changed.deleteCharAt(at);
            } else if (kind == 2) {
                changed.setCharAt(at, c);
            } else {
                changeDigit(changed, at);
            }
        }
        return changed.toString();
    }

    private void changeDigit(StringBuilder text, int from) {
        for (int i = from; i < text.length(); i++) {
            if (Character.isDigit(text.charAt(i))) {
                text.setCharAt(i, (char) ('0' + random.nextInt(10)));
                if (random.nextInt(4) == 0) {
                    text.insert(i, (char) ('0' + random.nextInt(10)));
                }
                return;
            }
        }
    }

    private boolean compareFaults(String text) {
        if (text.length() > 4000) {
            return false;
        }
        Reference want = new Reference(text);
        HiddenMoves x = random.nextInt(4) == 0 ? new HiddenMoves() : USED;
        CHECKS.due("fault of " + text, Checks.read(x, text), want.fault);
        CHECKS.due("place in " + text, x.place(), want.place);
        if (want.fault == 0) {
            compareGames(text, x, want);
        }
        return want.fault == 0;
    }

    private void compareGames(String text, HiddenMoves x, Reference want) {
        for (int i = 0; i < 4; i++) {
            CHECKS.due("count " + i + " of " + text, x.count(i), want.counts[i]);
        }
        for (int p = 1; p <= 2; p++) {
            CHECKS.due("sets of " + text, x.sets(p), want.sets(p - 1));
            CHECKS.due("plans of " + text, x.plans(p), want.plans(p - 1));
            for (int i = 0; i <= want.sets(p - 1); i++) {
                for (int j = 0; j < 3; j++) {
                    CHECKS.due("set of " + text, x.set(p, i, j), want.set(p - 1, i, j));
                }
            }
        }
        x.solve();
        CHECKS.due("value of " + text, Checks.printed(x, 0), want.value().print());
        CHECKS.due("check of " + text, x.check(), 1);
        compareWays(text, x, want);
    }

    private void compareWays(String text, HiddenMoves x, Reference want) {
        List<Reference.Q[][]> ways = new ArrayList<>();
        for (int p = 0; p < 2; p++) {
            ways.add(want.way(p, new int[want.sets(p)]));
        }
        for (int round = 0; round < 2; round++) {
            for (int p = 0; p < 2; p++) {
                if (round > 0) {
                    tell(x, p, ways.get(p));
                }
                compareJudged(text, x, want, p, ways.get(p));
            }
            if (want.good(ways.get(0)) && want.good(ways.get(1))) {
                x.expect();
                CHECKS.due("expected of " + text, Checks.printed(x, 1), want.expect(ways.get(0), ways.get(1)).print());
            } else {
                CHECKS.dueThrow("expect of " + text, x::expect, "IllegalStateException");
            }
        }
    }

    private void compareJudged(String text, HiddenMoves x, Reference want, int p, Reference.Q[][] way) {
        CHECKS.due("good of " + text, x.good(p + 1), want.good(way) ? 1 : 0);
        if (!want.good(way)) {
            CHECKS.dueThrow("judge of " + text, () -> x.judge(p + 1), "IllegalStateException");
            return;
        }
        x.judge(p + 1);
        int best = want.bestPlan(p, way);
        Reference.Q worth = want.against(p, way, best);
        CHECKS.due("judged of " + text, Checks.printed(x, 2 + p), worth.print());
        int[] plan = want.plan(1 - p, best);
        for (int i = 0; i < plan.length; i++) {
            CHECKS.due("reply to " + (p + 1) + " in " + i + " of " + text, x.reply(p + 1, i), plan[i]);
        }
        CHECKS.due("no more replies of " + text, x.reply(p + 1, plan.length), -1);
        CHECKS.due("compare of " + text, x.compare(0, 2 + p), Integer.signum(want.value().order(worth)));
    }

    private void tell(HiddenMoves x, int player, Reference.Q[][] way) {
        for (int i = 0; i < way.length; i++) {
            int bottom = 1 + random.nextInt(random.nextInt(3) == 0 ? 9999 : 6);
            int left = bottom;
            for (int j = 0; j < way[i].length; j++) {
                boolean isLast = j == way[i].length - 1 && random.nextInt(50) > 0;
                int top = isLast ? left : random.nextInt(left + 1);
                left -= top;
                x.tell(player + 1, i, j, top, bottom);
                way[i][j] = Reference.Q.of(top, bottom);
            }
        }
    }
}
