import java.math.BigInteger;
import java.util.ArrayList;
import java.util.LinkedHashMap;
import java.util.List;
import java.util.Map;

/** The document once more, in the dearest and most literal form: a tree, whole histories, all plans listed. */
final class Reference {
    private static final BigInteger LARGE = BigInteger.valueOf(1000000000L);

    /** A fraction in least terms. */
    record Q(BigInteger top, BigInteger bottom) {
        static final Q ZERO = of(0, 1);
        static final Q ONE = of(1, 1);

        static Q of(long top, long bottom) {
            return of(BigInteger.valueOf(top), BigInteger.valueOf(bottom));
        }

        static Q of(BigInteger top, BigInteger bottom) {
            BigInteger shared = top.gcd(bottom);
            if (bottom.signum() < 0) {
                shared = shared.negate();
            }
            return new Q(top.divide(shared), bottom.divide(shared));
        }

        Q plus(Q q) {
            return of(top.multiply(q.bottom).add(q.top.multiply(bottom)), bottom.multiply(q.bottom));
        }

        Q times(Q q) {
            return of(top.multiply(q.top), bottom.multiply(q.bottom));
        }

        int order(Q q) {
            return top.multiply(q.bottom).compareTo(q.top.multiply(bottom));
        }

        String print() {
            return bottom.equals(BigInteger.ONE) ? top.toString() : top + "/" + bottom;
        }
    }

    /** A fault and its place. */
    @SuppressWarnings("serial")
    private static final class Fault extends RuntimeException {
        final int code;
        final int place;

        Fault(int code, int place) {
            this.code = code;
            this.place = place;
        }
    }

    private record Fraction(int place, boolean below, int top, int bottom) {
        Q value() {
            return Q.of(below ? -top : top, bottom);
        }
    }

    private static final class Node {
        char kind;
        int place;
        int number;
        final List<Fraction> fractions = new ArrayList<>();
        final List<Node> children = new ArrayList<>();
    }

    private static final class SetOfNodes {
        int index;
        int number;
        String history;
        int ownMoves;
        int moves = -1;
    }

    private record Deed(int player, int set, int move) {
    }

    private record End(Q chance, Q win, List<Deed> deeds) {
    }

    final int fault;
    final int place;
    final int[] counts = new int[4];
    private final String text;
    private int at = 0;
    private Q value = null;
    private final List<Map<Integer, SetOfNodes>> sets = List.of(new LinkedHashMap<>(), new LinkedHashMap<>());
    private final List<End> ends = new ArrayList<>();

    Reference(String text) {
        this.text = text;
        int foundFault = 0;
        int foundPlace = -1;
        try {
            Node root = parseNode();
            if (!peek().isEmpty()) {
                throw new Fault(1, at);
            }
            walk(root, 0, Q.ONE, new ArrayList<>());
            lookAtWhole();
        } catch (Fault e) {
            foundFault = e.code;
            foundPlace = e.place;
        }
        fault = foundFault;
        place = foundPlace;
    }

    /** The next word, with at moved to where it begins; "" at the text's end. */
    private String peek() {
        while (at < text.length() && text.charAt(at) == ' ') {
            at++;
        }
        int end = at;
        while (end < text.length() && Character.isDigit(text.charAt(end))) {
            end++;
        }
        if (end > at) {
            return text.substring(at, end);
        }
        return at < text.length() ? text.substring(at, at + 1) : "";
    }

    private boolean isNext(String words) {
        String word = peek();
        return !word.isEmpty() && words.contains(word);
    }

    private String need(String words) {
        if (!isNext(words)) {
            throw new Fault(1, at);
        }
        String word = peek();
        at += word.length();
        return word;
    }

    private int needNumber() {
        String word = peek();
        if (word.isEmpty() || !Character.isDigit(word.charAt(0)) || word.length() > 4) {
            throw new Fault(1, at);
        }
        at += word.length();
        return Integer.parseInt(word);
    }

    private Fraction parseFraction() {
        peek();
        int begin = at;
        boolean below = isNext("-");
        if (below) {
            need("-");
        }
        int top = needNumber();
        int bottom = 1;
        if (isNext("/")) {
            need("/");
            bottom = needNumber();
        }
        return new Fraction(begin, below, top, bottom);
    }

    private Node parseNode() {
        Node node = new Node();
        peek();
        node.place = at;
        node.kind = need("[?AB").charAt(0);
        if (node.kind == '[') {
            node.fractions.add(parseFraction());
            need("]");
            return node;
        }
        if (node.kind != '?') {
            node.number = needNumber();
        }
        need("(");
        do {
            if (node.kind == '?') {
                node.fractions.add(parseFraction());
                need(":");
            }
            node.children.add(parseNode());
        } while (need(",)").equals(","));
        return node;
    }

    private static String historyOf(int player, List<Deed> deeds) {
        StringBuilder history = new StringBuilder();
        for (Deed deed : deeds) {
            if (deed.player == player) {
                history.append(deed.set).append('.').append(deed.move).append(' ');
            }
        }
        return history.toString();
    }

    private void walk(Node node, int above, Q chance, List<Deed> deeds) {
        counts[0]++;
        int player = node.kind == 'A' ? 0 : 1;
        boolean isChoice = node.kind == 'A' || node.kind == 'B';
        boolean isNewSet = isChoice && !sets.get(player).containsKey(node.number);
        if (counts[0] > 400 || above > 20 || isNewSet && sets.get(player).size() == 10) {
            throw new Fault(2, node.place);
        }
        if (chance.bottom.compareTo(LARGE) >= 0) {
            throw new Fault(6, node.place);
        }
        if (node.kind == '[') {
            counts[1]++;
            lookAtFraction(node.fractions.get(0), false);
            ends.add(new End(chance, node.fractions.get(0).value(), new ArrayList<>(deeds)));
        } else if (node.kind == '?') {
            counts[2]++;
            walkDraw(node, above, chance, deeds);
        } else {
            counts[3]++;
            walkChoice(node, above, chance, deeds, player);
        }
    }

    private void lookAtFraction(Fraction fraction, boolean ofDraw) {
        boolean bad = fraction.bottom == 0
                || ofDraw && (fraction.below || fraction.top == 0 || fraction.top > fraction.bottom);
        if (bad) {
            throw new Fault(3, fraction.place);
        }
    }

    private void walkDraw(Node node, int above, Q chance, List<Deed> deeds) {
        BigInteger multiple = BigInteger.ONE;
        Q sum = Q.ZERO;
        for (int i = 0; i < node.children.size(); i++) {
            lookAtFraction(node.fractions.get(i), true);
            Q part = node.fractions.get(i).value();
            walk(node.children.get(i), above + 1, chance.times(part), deeds);
            multiple = multiple.divide(multiple.gcd(part.bottom)).multiply(part.bottom);
            sum = sum.plus(part);
        }
        if (node.children.size() > 8) {
            throw new Fault(2, node.place);
        }
        if (multiple.compareTo(LARGE) >= 0) {
            throw new Fault(6, node.place);
        }
        if (!sum.equals(Q.ONE)) {
            throw new Fault(3, node.place);
        }
    }

    private void walkChoice(Node node, int above, Q chance, List<Deed> deeds, int player) {
        String history = historyOf(player, deeds);
        SetOfNodes set = sets.get(player).get(node.number);
        if (set == null) {
            set = new SetOfNodes();
            set.index = sets.get(player).size();
            set.number = node.number;
            set.history = history;
            set.ownMoves = (int) deeds.stream().filter(d -> d.player == player).count();
            sets.get(player).put(node.number, set);
        } else if (!set.history.equals(history)) {
            throw new Fault(4, node.place);
        }
        for (int i = 0; i < node.children.size(); i++) {
            deeds.add(new Deed(player, set.index, i));
            walk(node.children.get(i), above + 1, chance, deeds);
            deeds.remove(deeds.size() - 1);
        }
        if (node.children.size() > 4) {
            throw new Fault(2, node.place);
        }
        if (set.moves < 0) {
            set.moves = node.children.size();
        } else if (set.moves != node.children.size()) {
            throw new Fault(5, node.place);
        }
    }

    private void lookAtWhole() {
        if (plans(0) > 64 || plans(1) > 64) {
            throw new Fault(2, text.length());
        }
        BigInteger common = BigInteger.ONE;
        for (End end : ends) {
            BigInteger bottom = end.chance.times(end.win).bottom;
            common = common.divide(common.gcd(bottom)).multiply(bottom);
        }
        boolean large = common.compareTo(LARGE) >= 0;
        for (End end : ends) {
            Q weight = end.chance.times(end.win).times(Q.of(common, BigInteger.ONE));
            large |= weight.top.abs().compareTo(LARGE) >= 0;
        }
        if (large) {
            throw new Fault(6, text.length());
        }
    }

    int sets(int player) {
        return sets.get(player).size();
    }

    int set(int player, int index, int what) {
        for (SetOfNodes set : sets.get(player).values()) {
            if (set.index == index) {
                return what == 0 ? set.moves : what == 1 ? set.number : set.ownMoves;
            }
        }
        return -1;
    }

    long plans(int player) {
        long plans = 1;
        for (SetOfNodes set : sets.get(player).values()) {
            plans *= set.moves;
        }
        return plans;
    }

    /** Plans are counted such that the first set's moves change slowest. */
    int[] plan(int player, int n) {
        int[] moves = new int[sets(player)];
        int rest = n;
        for (int i = moves.length - 1; i >= 0; i--) {
            int m = set(player, i, 0);
            moves[i] = rest % m;
            rest /= m;
        }
        return moves;
    }

    Q[][] way(int player, int[] plan) {
        Q[][] way = new Q[plan.length][];
        for (int i = 0; i < plan.length; i++) {
            way[i] = new Q[set(player, i, 0)];
            for (int j = 0; j < way[i].length; j++) {
                way[i][j] = j == plan[i] ? Q.ONE : Q.ZERO;
            }
        }
        return way;
    }

    boolean good(Q[][] way) {
        for (Q[] chances : way) {
            Q sum = Q.ZERO;
            for (Q chance : chances) {
                sum = sum.plus(chance);
            }
            if (!sum.equals(Q.ONE)) {
                return false;
            }
        }
        return true;
    }

    Q expect(Q[][] wayOfA, Q[][] wayOfB) {
        Q sum = Q.ZERO;
        for (End end : ends) {
            Q part = end.chance.times(end.win);
            for (Deed deed : end.deeds) {
                if (part.top.signum() != 0) {
                    part = part.times((deed.player == 0 ? wayOfA : wayOfB)[deed.set][deed.move]);
                }
            }
            sum = sum.plus(part);
        }
        return sum;
    }

    /** The number of the other player's best plan. */
    int bestPlan(int player, Q[][] way) {
        int best = 0;
        Q worth = against(player, way, 0);
        for (int i = 1; i < plans(1 - player); i++) {
            Q next = against(player, way, i);
            int order = next.order(worth);
            if (player == 0 ? order < 0 : order > 0) {
                best = i;
                worth = next;
            }
        }
        return best;
    }

    Q against(int player, Q[][] way, int plan) {
        Q[][] other = way(1 - player, plan(1 - player, plan));
        return player == 0 ? expect(way, other) : expect(other, way);
    }

    Q value() {
        if (value == null) {
            value = findValue();
        }
        return value;
    }

    private Q findValue() {
        int m = (int) plans(0);
        int n = (int) plans(1);
        Q[][] table = new Q[m][n];
        BigInteger common = BigInteger.ONE;
        for (int i = 0; i < m; i++) {
            Q[][] way = way(0, plan(0, i));
            for (int j = 0; j < n; j++) {
                table[i][j] = against(0, way, j);
                BigInteger bottom = table[i][j].bottom;
                common = common.divide(common.gcd(bottom)).multiply(bottom);
            }
        }
        BigInteger[][] whole = new BigInteger[m][n];
        for (int i = 0; i < m; i++) {
            for (int j = 0; j < n; j++) {
                whole[i][j] = table[i][j].times(Q.of(common, BigInteger.ONE)).top;
            }
        }
        return valueOf(whole).times(Q.of(BigInteger.ONE, common));
    }

    /** B's part of a table game: the most that y can have together if table times y is at most 1, all above 0. */
    private static Q valueOf(BigInteger[][] table) {
        int m = table.length;
        int n = table[0].length;
        BigInteger least = table[0][0];
        for (BigInteger[] row : table) {
            for (BigInteger x : row) {
                least = least.min(x);
            }
        }
        BigInteger shift = BigInteger.ONE.subtract(least);
        BigInteger[][] t = new BigInteger[m + 1][n + 1];
        for (int i = 0; i <= m; i++) {
            for (int j = 0; j <= n; j++) {
                if (i < m) {
                    t[i][j] = j < n ? table[i][j].add(shift) : BigInteger.ONE;
                } else {
                    t[i][j] = j < n ? BigInteger.ONE.negate() : BigInteger.ZERO;
                }
            }
        }
        BigInteger scale = simplex(t, m, n);
        return Q.of(scale, t[m][n]).plus(Q.of(shift.negate(), BigInteger.ONE));
    }

    private static BigInteger simplex(BigInteger[][] t, int m, int n) {
        int[] rows = new int[m];
        int[] columns = new int[n];
        for (int i = 0; i < m; i++) {
            rows[i] = n + i;
        }
        for (int j = 0; j < n; j++) {
            columns[j] = j;
        }
        BigInteger scale = BigInteger.ONE;
        while (true) {
            int column = -1;
            for (int j = 0; j < n; j++) {
                if (t[m][j].signum() < 0 && (column < 0 || columns[j] < columns[column])) {
                    column = j;
                }
            }
            if (column < 0) {
                return scale;
            }
            int row = -1;
            for (int i = 0; i < m; i++) {
                if (t[i][column].signum() > 0) {
                    int order = row < 0 ? -1
                            : t[i][n].multiply(t[row][column]).compareTo(t[row][n].multiply(t[i][column]));
                    if (order < 0 || order == 0 && rows[i] < rows[row]) {
                        row = i;
                    }
                }
            }
            BigInteger pivot = t[row][column];
            for (int i = 0; i <= m; i++) {
                for (int j = 0; j <= n; j++) {
                    if (i != row && j != column) {
                        t[i][j] = t[i][j].multiply(pivot).subtract(t[i][column].multiply(t[row][j])).divide(scale);
                    }
                }
            }
            for (int i = 0; i <= m; i++) {
                t[i][column] = i == row ? scale : t[i][column].negate();
            }
            scale = pivot;
            int unknown = rows[row];
            rows[row] = columns[column];
            columns[column] = unknown;
        }
    }
}
