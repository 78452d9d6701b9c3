/** The document's calls once more, plainly, on top of the reference. */
final class Model {
    private String text = "";
    private Reference game = null;
    private int place = -1;
    private final Reference.Q[][][] ways = new Reference.Q[2][][];
    private final Reference.Q[] numbers = new Reference.Q[4];
    private final int[][] replies = new int[2][];
    private String printed = "";

    int type(long characters, int n) {
        if (n < 1 || n > 8 || text.length() + n > 4000) {
            return -1;
        }
        StringBuilder typed = new StringBuilder();
        for (int i = n - 1; i >= 0; i--) {
            int c = (int) (characters >> 8 * i & 255);
            if (c < 32 || c > 126) {
                return -1;
            }
            typed.append((char) c);
        }
        text += typed;
        return text.length();
    }

    int read() {
        Reference next = new Reference(text);
        text = "";
        place = next.place;
        if (next.fault == 0) {
            game = next;
            for (int p = 0; p < 2; p++) {
                ways[p] = game.way(p, new int[game.sets(p)]);
                replies[p] = null;
            }
            for (int i = 0; i < 4; i++) {
                numbers[i] = null;
            }
        }
        return next.fault;
    }

    int place() {
        return place;
    }

    int count(int what) {
        return game == null || what < 0 || what > 3 ? -1 : game.counts[what];
    }

    private boolean isPlaying(int player) {
        return game != null && (player == 1 || player == 2);
    }

    int sets(int player) {
        return isPlaying(player) ? game.sets(player - 1) : -1;
    }

    int set(int player, int set, int what) {
        return isPlaying(player) && what >= 0 && what <= 2 ? game.set(player - 1, set, what) : -1;
    }

    int plans(int player) {
        return isPlaying(player) ? (int) game.plans(player - 1) : -1;
    }

    void tell(int player, int set, int move, int top, int bottom) {
        if (!isPlaying(player) || move < 0 || move >= game.set(player - 1, set, 0)) {
            throw new IndexOutOfBoundsException();
        }
        if (bottom < 1 || bottom > 9999 || top < 0 || top > bottom) {
            throw new IllegalArgumentException();
        }
        ways[player - 1][set][move] = Reference.Q.of(top, bottom);
    }

    int good(int player) {
        return !isPlaying(player) ? -1 : game.good(ways[player - 1]) ? 1 : 0;
    }

    void solve() {
        if (game == null) {
            throw new IllegalStateException();
        }
        numbers[0] = game.value();
    }

    void expect() {
        if (good(1) != 1 || good(2) != 1) {
            throw new IllegalStateException();
        }
        numbers[1] = game.expect(ways[0], ways[1]);
    }

    void judge(int player) {
        if (player != 1 && player != 2) {
            throw new IllegalArgumentException();
        }
        if (good(player) != 1) {
            throw new IllegalStateException();
        }
        int who = player - 1;
        int best = game.bestPlan(who, ways[who]);
        numbers[2 + who] = game.against(who, ways[who], best);
        replies[who] = game.plan(1 - who, best);
    }

    int reply(int player, int set) {
        if (!isPlaying(player) || replies[player - 1] == null || set < 0 || set >= replies[player - 1].length) {
            return -1;
        }
        return replies[player - 1][set];
    }

    private boolean isKnown(int what) {
        return what >= 0 && what <= 3 && numbers[what] != null;
    }

    int print(int what) {
        if (!isKnown(what)) {
            return -1;
        }
        printed = numbers[what].print();
        return printed.length();
    }

    int character(int i) {
        return i >= 0 && i < printed.length() ? printed.charAt(i) : -1;
    }

    int compare(int what, int with) {
        return isKnown(what) && isKnown(with) ? Integer.signum(numbers[what].order(numbers[with])) : -2;
    }

    int check() {
        return numbers[0] == null ? -1 : 1;
    }
}
