/**
 * Games of two players with hidden moves and chance, told by a text: what one wins the other one loses.
 *
 * <p>What a player did so far is held as one number, its LINE: line 0 is "nothing yet", and each move of each of
 * its sets has a line of its own. As a read game's players remember what they did, a line tells all the own moves
 * up to it. So whatever is to be expected is a sum over pairs of lines (20 by 20 at most), and the plans, of which
 * there may be 64 by 64, need never be listed.
 */
public final class HiddenMoves {
    public static final int NONE = -1;

    private static final int A = 0;
    private static final int B = 1;
    private static final int PLAYERS = 2;

    private static final int VALUE = 0;
    private static final int EXPECTED = 1;
    private static final int JUDGED = 2;
    private static final int RESULTS = 4;

    private static final int TEXT_LIMIT = 4000;
    private static final int NODE_LIMIT = 400;
    private static final int ABOVE_LIMIT = 20;
    private static final int SET_LIMIT = 10;
    private static final int MOVE_LIMIT = 4;
    private static final int WAY_LIMIT = 8;
    private static final int PLAN_LIMIT = 64;
    private static final int BOTTOM_LIMIT = 9999;
    private static final long TOO_LARGE = 1000000000L;

    /** Line 0 and, as 64 plans allow three sets of four moves beside seven of one, 19 more. */
    private static final int LINE_LIMIT = 20;

    /**
     * Digits of 32 bits. What is dearest are the solver's cells, minors of its first table: 19 rows whose sizes add
     * up to some 4e11 together give 652 bits at most, 10 rows of sizes up to 5 give 24, the goals' row and the
     * bounds' column 47 each: 770 bits. Common number and sums over weights add less than 50.
     */
    private static final int ROOM = 32;
    private static final int DOUBLE_ROOM = 2 * ROOM;

    /** 32 bits are fewer than 10 decimal digits; two numbers, a sign and a stroke. */
    private static final int PRINT_LIMIT = 2 * 10 * ROOM + 2;

    private final Reader reader = new Reader();
    private final char[] printed = new char[PRINT_LIMIT];
    private int printedLength = 0;
    private final Solver solver = new Solver();
    private final Way[] ways = new Way[PLAYERS];
    private final Mix[] told = new Mix[PLAYERS];
    private final Mix[] found = new Mix[PLAYERS];
    private final Reply[] replies = new Reply[PLAYERS];
    private final Reply trial = new Reply();
    private final Ratio[] results = new Ratio[RESULTS];
    private final Ratio probe = new Ratio();
    private final Big sum = new Big(ROOM);
    private final Big whole = new Big(ROOM);
    private Game game = new Game();
    private boolean hasGame = false;
    private int faultPlace = NONE;

    public HiddenMoves() {
        for (int i = 0; i < PLAYERS; i++) {
            ways[i] = new Way();
            told[i] = new Mix();
            found[i] = new Mix();
            replies[i] = new Reply();
        }
        for (int i = 0; i < RESULTS; i++) {
            results[i] = new Ratio();
        }
    }

    public int type(long characters, int n) {
        return reader.words.append(characters, n) ? reader.words.length : NONE;
    }

    public int read() {
        int fault = reader.understand();
        faultPlace = reader.faultPlace;
        reader.words.length = 0;
        if (fault == 0) {
            game = reader.exchange(game);
            hasGame = true;
            startAnew();
        }
        return fault;
    }

    public int place() {
        return faultPlace;
    }

    public int count(int what) {
        return hasGame && what >= 0 && what < Game.KINDS ? game.counts[what] : NONE;
    }

    public int sets(int player) {
        return isPlaying(player) ? sideOf(player).sets : NONE;
    }

    public int set(int player, int set, int what) {
        if (!isPlaying(player) || !sideOf(player).hasSet(set)) {
            return NONE;
        }
        Side side = sideOf(player);
        switch (what) {
            case 0:
                return side.moves[set];
            case 1:
                return side.numbers[set];
            case 2:
                return side.ownMoves[set];
            default:
                return NONE;
        }
    }

    public int plans(int player) {
        return isPlaying(player) ? sideOf(player).countPlans() : NONE;
    }

    public void tell(int player, int set, int move, int top, int bottom)
            throws IndexOutOfBoundsException, IllegalArgumentException {
        if (!isPlaying(player) || !sideOf(player).hasMove(set, move)) {
            throw new IndexOutOfBoundsException("no such move");
        }
        if (bottom < 1 || bottom > BOTTOM_LIMIT || top < 0 || top > bottom) {
            throw new IllegalArgumentException("no such chance");
        }
        ways[player - 1].putChance(set, move, top, bottom);
    }

    public int good(int player) {
        if (!isPlaying(player)) {
            return NONE;
        }
        return isGood(player - 1) ? 1 : 0;
    }

    public void solve() throws IllegalStateException {
        if (!hasGame) {
            throw new IllegalStateException("no game");
        }
        solver.work(game);
        solver.handOver(found[A], found[B]);
        results[VALUE].put(solver.top(), found[A].parts[0], game.common);
    }

    public void expect() throws IllegalStateException {
        if (!hasGame || !isGood(A) || !isGood(B)) {
            throw new IllegalStateException("no game, or a way is not good");
        }
        spreadWay(A);
        spreadWay(B);
        trial.meet(game, told[A], told[B], sum);
        whole.putProduct(told[A].parts[0], told[B].parts[0]);
        results[EXPECTED].put(sum, whole, game.common);
    }

    public void judge(int player) throws IllegalArgumentException, IllegalStateException {
        if (!isPlayer(player)) {
            throw new IllegalArgumentException("no such player");
        }
        int who = player - 1;
        if (!hasGame || !isGood(who)) {
            throw new IllegalStateException("no game, or the way is not good");
        }
        spreadWay(who);
        replies[who].work(game, other(who), told[who]);
        results[JUDGED + who].put(replies[who].worth(), told[who].parts[0], game.common);
    }

    public int reply(int player, int set) {
        if (!isPlaying(player) || !results[JUDGED + player - 1].known) {
            return NONE;
        }
        int who = player - 1;
        return game.sides[other(who)].hasSet(set) ? replies[who].moves[set] : NONE;
    }

    public int print(int what) {
        if (!isKnown(what)) {
            return NONE;
        }
        printedLength = results[what].write(printed);
        return printedLength;
    }

    public int character(int i) {
        return i >= 0 && i < printedLength ? printed[i] : NONE;
    }

    public int compare(int what, int with) {
        return isKnown(what) && isKnown(with) ? results[what].order(results[with]) : -2;
    }

    public int check() {
        if (!results[VALUE].known) {
            return NONE;
        }
        return getsValue(A) && getsValue(B) ? 1 : 0;
    }

    private static int other(int who) {
        return 1 - who;
    }

    private static boolean isPlayer(int player) {
        return player == 1 || player == 2;
    }

    private boolean isPlaying(int player) {
        return hasGame && isPlayer(player);
    }

    private Side sideOf(int player) {
        return game.sides[player - 1];
    }

    private boolean isKnown(int what) {
        return what >= 0 && what < RESULTS && results[what].known;
    }

    private boolean isGood(int who) {
        return ways[who].isGood(game.sides[who]);
    }

    private void spreadWay(int who) {
        ways[who].spread(game.sides[who], told[who]);
    }

    private void startAnew() {
        for (int i = 0; i < RESULTS; i++) {
            results[i].known = false;
        }
        for (int i = 0; i < PLAYERS; i++) {
            ways[i].restart();
        }
    }

    /** The best reply is taken from all plans, so looking at it looks at every plan of the other player. */
    private boolean getsValue(int who) {
        if (!found[who].isMix(game.sides[who])) {
            return false;
        }
        trial.work(game, other(who), found[who]);
        probe.put(trial.worth(), found[who].parts[0], game.common);
        return probe.order(results[VALUE]) == 0;
    }

    private static long gcd(long a, long b) {
        long x = Math.abs(a);
        long y = Math.abs(b);
        // Each second step halves the greater one, so 200 are more than a long can need.
        for (int i = 0; i < 200 && y != 0; i++) {
            long rest = x % y;
            x = y;
            y = rest;
        }
        return x;
    }

    /** Both above 0. */
    private static long lcm(long a, long b) {
        return quotient(a, gcd(a, b)) * b;
    }

    /** No divisor is ever 0; it is looked at all the same, so that no call can throw by itself. */
    private static long quotient(long number, long divisor) {
        return divisor == 0 ? 0 : number / divisor;
    }

    /** A whole number of any sign: its size in digits of 32 bits, the lowest first. */
    private static final class Big {
        private static final long LOW = 0xFFFFFFFFL;

        final int[] digits;
        int length = 0;
        boolean below = false;

        Big(int room) {
            digits = new int[room];
        }

        void put(long value) {
            long size = value < 0 ? -value : value;
            below = value < 0;
            length = 0;
            for (int i = 0; i < 2 && i < digits.length && size != 0; i++) {
                digits[i] = (int) size;
                size >>>= 32;
                length = i + 1;
            }
        }

        void copy(Big from) {
            length = Math.min(from.length, digits.length);
            System.arraycopy(from.digits, 0, digits, 0, length);
            below = from.below;
        }

        int sign() {
            if (length == 0) {
                return 0;
            }
            return below ? -1 : 1;
        }

        void negate() {
            below = !below && length > 0;
        }

        boolean isOne() {
            return length == 1 && digits[0] == 1 && !below;
        }

        private long digit(int i) {
            return i < length ? digits[i] & LOW : 0L;
        }

        void trim(int used) {
            length = used;
            while (length > 0 && digits[length - 1] == 0) {
                length--;
            }
            below = below && length > 0;
        }

        int orderOfSizes(Big with) {
            if (length != with.length) {
                return length < with.length ? -1 : 1;
            }
            for (int i = length - 1; i >= 0; i--) {
                if (digits[i] != with.digits[i]) {
                    return digit(i) < with.digit(i) ? -1 : 1;
                }
            }
            return 0;
        }

        int order(Big with) {
            if (sign() != with.sign()) {
                return sign() < with.sign() ? -1 : 1;
            }
            return below ? with.orderOfSizes(this) : orderOfSizes(with);
        }

        void plus(Big more) {
            if (more.length == 0) {
                return;
            }
            if (length == 0) {
                copy(more);
            } else if (below == more.below) {
                putSum(length >= more.length ? this : more, length >= more.length ? more : this);
            } else if (orderOfSizes(more) >= 0) {
                putDifference(this, more);
            } else {
                below = more.below;
                putDifference(more, this);
            }
        }

        /** The sizes' sum; this may be one of the two. */
        private void putSum(Big longer, Big shorter) {
            int used = Math.min(longer.length, digits.length);
            int both = Math.min(shorter.length, used);
            long carry = 0;
            for (int i = 0; i < both; i++) {
                carry += (longer.digits[i] & LOW) + (shorter.digits[i] & LOW);
                digits[i] = (int) carry;
                carry >>>= 32;
            }
            for (int i = both; i < used; i++) {
                carry += longer.digits[i] & LOW;
                digits[i] = (int) carry;
                carry >>>= 32;
            }
            length = used;
            if (carry != 0 && used < digits.length) {
                digits[used] = (int) carry;
                length = used + 1;
            }
        }

        /** The sizes' difference; this may be one of the two. */
        void putDifference(Big greater, Big lesser) {
            int used = Math.min(greater.length, digits.length);
            int both = Math.min(lesser.length, used);
            long borrow = 0;
            for (int i = 0; i < both; i++) {
                long rest = (greater.digits[i] & LOW) - (lesser.digits[i] & LOW) - borrow;
                digits[i] = (int) rest;
                borrow = rest < 0 ? 1 : 0;
            }
            for (int i = both; i < used; i++) {
                long rest = (greater.digits[i] & LOW) - borrow;
                digits[i] = (int) rest;
                borrow = rest < 0 ? 1 : 0;
            }
            trim(used);
        }

        /** This is neither of the two. */
        void putProduct(Big a, Big b) {
            int used = Math.min(a.length + b.length, digits.length);
            for (int i = 0; i < used; i++) {
                digits[i] = 0;
            }
            for (int i = 0; i < a.length && i < used; i++) {
                addMultiple(b, a.digit(i), i, used);
            }
            below = a.below != b.below;
            trim(used);
        }

        private void addMultiple(Big b, long factor, int shift, int used) {
            int end = Math.min(shift + b.length, used);
            long carry = 0;
            for (int i = shift; i < end; i++) {
                carry += factor * (b.digits[i - shift] & LOW) + (digits[i] & LOW);
                digits[i] = (int) carry;
                carry >>>= 32;
            }
            if (end < used) {
                digits[end] = (int) carry;
            }
        }

        /** By 0 .. 2^32 - 1. */
        void scale(long factor) {
            long carry = 0;
            int used = length;
            for (int i = 0; i < used; i++) {
                carry += factor * (digits[i] & LOW);
                digits[i] = (int) carry;
                carry >>>= 32;
            }
            if (carry != 0 && used < digits.length) {
                digits[used] = (int) carry;
                used++;
            }
            trim(used);
        }

        /** By 1 .. 2^31 - 1: what is left over. */
        int divideBySmall(int divisor) {
            long rest = 0;
            for (int i = length - 1; i >= 0 && divisor > 0; i--) {
                long part = (rest << 32) | digit(i);
                digits[i] = (int) (part / divisor);
                rest = part % divisor;
            }
            trim(length);
            return (int) rest;
        }

        int lowZeros() {
            int i = 0;
            while (i < length && digits[i] == 0) {
                i++;
            }
            return i < length ? 32 * i + Integer.numberOfTrailingZeros(digits[i]) : 0;
        }

        void shiftDown(int bits) {
            int whole = bits >> 5;
            int part = bits & 31;
            if (bits <= 0) {
                return;
            }
            int used = Math.max(length - whole, 0);
            for (int i = 0; i < used; i++) {
                long pair = digit(i + whole) | (digit(i + whole + 1) << 32);
                digits[i] = (int) (pair >>> part);
            }
            trim(used);
        }
    }

    /** Divides without rest, from the lowest digit up: no digit of the quotient has to be guessed that way. */
    private static final class Divider {
        private final Big odd = new Big(ROOM);
        private int twos = 0;
        private int inverse = 1;

        /** The divisor is above 0. */
        void prepare(Big divisor) {
            odd.copy(divisor);
            twos = odd.lowZeros();
            odd.shiftDown(twos);
            int low = odd.length > 0 ? odd.digits[0] : 1;
            inverse = low;
            // An odd number is its own inverse in 3 bits; each step doubles them: 6, 12, 24, 48.
            for (int i = 0; i < 4; i++) {
                inverse *= 2 - low * inverse;
            }
        }

        void divide(Big number) {
            number.shiftDown(twos);
            if (odd.isOne()) {
                return;
            }
            int used = Math.max(number.length - odd.length + 1, 0);
            for (int i = 0; i < used; i++) {
                int digit = number.digits[i] * inverse;
                takeMultiple(number.digits, digit & Big.LOW, i, used);
                number.digits[i] = digit;
            }
            number.trim(used);
        }

        /** Digits from used on are of no use: they are 0 in the end, as there is no rest. */
        private void takeMultiple(int[] digits, long factor, int shift, int used) {
            long borrow = 0;
            int end = Math.min(shift + odd.length, used);
            for (int i = shift; i < end; i++) {
                long part = factor * (odd.digits[i - shift] & Big.LOW) + borrow;
                long rest = (digits[i] & Big.LOW) - (part & Big.LOW);
                digits[i] = (int) rest;
                borrow = (part >>> 32) + (rest < 0 ? 1 : 0);
            }
            for (int i = end; i < used && borrow != 0; i++) {
                long rest = (digits[i] & Big.LOW) - borrow;
                digits[i] = (int) rest;
                borrow = rest < 0 ? 1 : 0;
            }
        }
    }

    /** A number that was worked out, in least terms. */
    private static final class Ratio {
        final Big top = new Big(ROOM);
        final Big bottom = new Big(ROOM);
        boolean known = false;
        private final Big first = new Big(DOUBLE_ROOM);
        private final Big second = new Big(DOUBLE_ROOM);
        private final Divider divider = new Divider();

        /** Above, by below times common; both of these are above 0. */
        void put(Big above, Big below, long common) {
            top.copy(above);
            bottom.copy(below);
            bottom.scale(common);
            if (top.length == 0) {
                bottom.put(1);
            } else {
                shareTwos();
                findOddDivisor();
                divider.prepare(first);
                divider.divide(top);
                divider.divide(bottom);
            }
            known = true;
        }

        private void shareTwos() {
            int twos = Math.min(top.lowZeros(), bottom.lowZeros());
            top.shiftDown(twos);
            bottom.shiftDown(twos);
        }

        /** The greatest odd one is left in first; each difference is even, so each step takes a bit from one of two. */
        private void findOddDivisor() {
            first.copy(top);
            first.below = false;
            first.shiftDown(first.lowZeros());
            second.copy(bottom);
            second.shiftDown(second.lowZeros());
            for (int i = 0; i < 100000; i++) {
                int order = first.orderOfSizes(second);
                if (order == 0) {
                    return;
                }
                Big greater = order > 0 ? first : second;
                greater.putDifference(greater, order > 0 ? second : first);
                greater.shiftDown(greater.lowZeros());
            }
        }

        int order(Ratio with) {
            first.putProduct(top, with.bottom);
            second.putProduct(with.top, bottom);
            return first.order(second);
        }

        /** How many characters it puts there. */
        int write(char[] there) {
            int used = 0;
            if (top.below) {
                there[0] = '-';
                used = 1;
            }
            used = writeSize(top, there, used);
            if (!bottom.isOne() && used < there.length) {
                there[used] = '/';
                used = writeSize(bottom, there, used + 1);
            }
            return used;
        }

        /** Behind the used ones: how many are used then. */
        private int writeSize(Big number, char[] there, int used) {
            first.copy(number);
            int end = used;
            // The digits come out lowest first, so they are turned round when all are there.
            for (int i = used; i < there.length && (i == used || first.length > 0); i++) {
                there[i] = (char) ('0' + first.divideBySmall(10));
                end = i + 1;
            }
            for (int i = used, j = end - 1; i < j; i++, j--) {
                char c = there[i];
                there[i] = there[j];
                there[j] = c;
            }
            return end;
        }
    }

    /** The text, and the word of it that is looked at. */
    private static final class Words {
        static final int OVER = 0;
        static final int WRONG = 1;
        static final int NUMBER = '0';
        private static final int DIGIT_LIMIT = 4;
        private static final int TYPED_LIMIT = 8;

        private final char[] characters = new char[TEXT_LIMIT];
        int length = 0;
        /** OVER, WRONG, NUMBER, or the word's only character. */
        int kind = OVER;
        int begin = 0;
        int value = 0;
        private int behind = 0;

        boolean append(long typed, int n) {
            if (n < 1 || n > TYPED_LIMIT || length + n > TEXT_LIMIT) {
                return false;
            }
            for (int i = 0; i < n; i++) {
                int c = typedCharacter(typed, i);
                if (c < 32 || c > 126) {
                    return false;
                }
            }
            for (int i = n - 1; i >= 0; i--) {
                characters[length] = (char) typedCharacter(typed, i);
                length++;
            }
            return true;
        }

        private static int typedCharacter(long typed, int i) {
            return (int) (typed >>> (8 * i)) & 255;
        }

        void goToStart() {
            behind = 0;
            advance();
        }

        void advance() {
            while (behind < length && characters[behind] == ' ') {
                behind++;
            }
            begin = behind;
            if (behind >= length) {
                kind = OVER;
                return;
            }
            takeNumber();
            if (behind == begin) {
                kind = isWord(characters[behind]) ? characters[behind] : WRONG;
                behind++;
            }
        }

        private void takeNumber() {
            value = 0;
            while (behind < length && characters[behind] >= '0' && characters[behind] <= '9') {
                if (behind - begin < DIGIT_LIMIT) {
                    value = 10 * value + characters[behind] - '0';
                }
                behind++;
            }
            kind = behind - begin <= DIGIT_LIMIT ? NUMBER : WRONG;
        }

        private static boolean isWord(char c) {
            switch (c) {
                case 'A':
                case 'B':
                case '?':
                case '(':
                case ')':
                case '[':
                case ']':
                case ':':
                case ',':
                case '-':
                case '/':
                    return true;
                default:
                    return false;
            }
        }
    }

    /** What a player knows and can do in a game. */
    private static final class Side {
        /** More than a choice can have moves before the nodes are too many. */
        private static final int SPAN = 512;

        int sets = 0;
        final int[] numbers = new int[SET_LIMIT];
        /** 0 until the first node of the set is over. */
        final int[] moves = new int[SET_LIMIT];
        final int[] ownMoves = new int[SET_LIMIT];
        /** The latest own deed on the way to a set, or NONE: it tells all earlier ones, as sets keep recall. */
        final int[] deeds = new int[SET_LIMIT];
        int lines = 1;
        final int[] firstLines = new int[SET_LIMIT];
        final int[] parentLines = new int[SET_LIMIT];

        static int deed(int set, int move) {
            return set * SPAN + move;
        }

        static int setOf(int deed) {
            return deed / SPAN;
        }

        static int moveOf(int deed) {
            return deed % SPAN;
        }

        boolean hasSet(int set) {
            return set >= 0 && set < sets;
        }

        boolean hasMove(int set, int move) {
            return hasSet(set) && move >= 0 && move < moves[set];
        }

        int find(int number) {
            for (int i = 0; i < sets; i++) {
                if (numbers[i] == number) {
                    return i;
                }
            }
            return NONE;
        }

        /** There is room for one more. */
        int begin(int number, int deed) {
            int set = Math.min(sets, SET_LIMIT - 1);
            numbers[set] = number;
            moves[set] = 0;
            deeds[set] = deed;
            ownMoves[set] = deed == NONE ? 0 : ownMoves[setOf(deed)] + 1;
            sets = set + 1;
            return set;
        }

        int countPlans() {
            int plans = 1;
            for (int i = 0; i < sets; i++) {
                plans *= moves[i];
            }
            return plans;
        }

        void numberLines() {
            lines = 1;
            for (int i = 0; i < sets; i++) {
                firstLines[i] = lines;
                lines += moves[i];
                parentLines[i] = lineOf(deeds[i]);
            }
        }

        int lineOf(int deed) {
            return deed == NONE ? 0 : firstLines[setOf(deed)] + moveOf(deed);
        }

        /** How many sets are met next, of this player's, behind a line. */
        int countChildren(int line) {
            int children = 0;
            for (int i = 0; i < sets; i++) {
                if (parentLines[i] == line) {
                    children++;
                }
            }
            return children;
        }
    }

    /** What a text tells. */
    private static final class Game {
        static final int NODES = 0;
        static final int ENDS = 1;
        static final int DRAWS = 2;
        static final int CHOICES = 3;
        static final int KINDS = 4;

        final int[] counts = new int[KINDS];
        final Side[] sides = new Side[PLAYERS];
        long common = 1;
        /** By the lines of A and of B with which they come to ends: the sum of these ends' weights. */
        final long[][] weights = new long[LINE_LIMIT][LINE_LIMIT];

        Game() {
            for (int i = 0; i < PLAYERS; i++) {
                sides[i] = new Side();
            }
        }

        void clear() {
            for (int i = 0; i < KINDS; i++) {
                counts[i] = 0;
            }
            for (int i = 0; i < PLAYERS; i++) {
                sides[i].sets = 0;
            }
            for (int i = 0; i < LINE_LIMIT; i++) {
                for (int j = 0; j < LINE_LIMIT; j++) {
                    weights[i][j] = 0;
                }
            }
        }

        long weight(int who, int line, int otherLine) {
            return who == A ? weights[line][otherLine] : weights[otherLine][line];
        }

        long sumOfSizes() {
            long sum = 0;
            for (int i = 0; i < sides[A].lines; i++) {
                for (int j = 0; j < sides[B].lines; j++) {
                    sum += Math.abs(weights[i][j]);
                }
            }
            return sum;
        }
    }

    /** Makes a game of the text, or finds its fault. */
    private static final class Reader {
        private static final int NONE_OF_IT = 1;
        private static final int MANY = 2;
        private static final int NUMBER = 3;
        private static final int RECALL = 4;
        private static final int MOVES = 5;
        private static final int LARGE = 6;

        private static final int NOTHING = 0;
        private static final int NODE = 1;
        private static final int SET = 2;
        private static final int CHOICE_BRACKET = 3;
        private static final int DRAW_BRACKET = 4;
        private static final int FRACTION = 5;
        private static final int TOP = 6;
        private static final int BEHIND_TOP = 7;
        private static final int BOTTOM = 8;
        private static final int BEHIND_BOTTOM = 9;
        private static final int BEHIND_NODE = 10;

        int faultPlace = NONE;
        private int fault = 0;
        final Words words = new Words();
        private Game game = new Game();
        /** For each open bracket whether it is a draw's. */
        private final boolean[] isDrawOpen = new boolean[TEXT_LIMIT / 2];
        private int open = 0;
        private boolean isInEnd = false;
        private long fractionTop = 0;
        private long fractionBottom = 1;
        /** Chance times what A wins, in least terms. */
        private final long[] endTops = new long[NODE_LIMIT];
        private final long[] endBottoms = new long[NODE_LIMIT];
        private final int[] endDeedsOfA = new int[NODE_LIMIT];
        private final int[] endDeedsOfB = new int[NODE_LIMIT];

        /** Gives the game that was made; the old one is used for the next text. */
        Game exchange(Game old) {
            Game made = game;
            game = old;
            return made;
        }

        int understand() {
            game.clear();
            fault = 0;
            faultPlace = NONE;
            words.goToStart();
            if (!isOne()) {
                refuse(NONE_OF_IT, words.begin);
                return fault;
            }
            words.goToStart();
            if (goThroughNode(0, 1, 1, NONE, NONE)) {
                finish();
            }
            return fault;
        }

        private boolean refuse(int why, int where) {
            fault = why;
            faultPlace = where;
            return false;
        }

        /** Word by word and without recursion: the brackets of a text may be open a thousand deep. */
        private boolean isOne() {
            open = 0;
            isInEnd = false;
            int due = NODE;
            for (int i = 0; i <= TEXT_LIMIT && words.kind != Words.OVER; i++) {
                due = dueBehind(due);
                if (due == NOTHING) {
                    return false;
                }
                words.advance();
            }
            return due == BEHIND_NODE && open == 0;
        }

        /** What is due behind the word that is looked at, if before it something was due; NOTHING if it can't stand. */
        private int dueBehind(int due) {
            int kind = words.kind;
            switch (due) {
                case NODE:
                    return dueInNode(kind);
                case SET:
                    return kind == Words.NUMBER ? CHOICE_BRACKET : NOTHING;
                case CHOICE_BRACKET:
                    return kind == '(' ? openBracket(false) : NOTHING;
                case DRAW_BRACKET:
                    return kind == '(' ? openBracket(true) : NOTHING;
                case FRACTION:
                    if (kind == '-') {
                        return TOP;
                    }
                    return kind == Words.NUMBER ? BEHIND_TOP : NOTHING;
                case TOP:
                    return kind == Words.NUMBER ? BEHIND_TOP : NOTHING;
                case BEHIND_TOP:
                    return kind == '/' ? BOTTOM : dueBehindFraction(kind);
                case BOTTOM:
                    return kind == Words.NUMBER ? BEHIND_BOTTOM : NOTHING;
                case BEHIND_BOTTOM:
                    return dueBehindFraction(kind);
                default:
                    return dueBehindNode(kind);
            }
        }

        private int dueInNode(int kind) {
            isInEnd = kind == '[';
            switch (kind) {
                case '[':
                    return FRACTION;
                case '?':
                    return DRAW_BRACKET;
                case 'A':
                case 'B':
                    return SET;
                default:
                    return NOTHING;
            }
        }

        private int openBracket(boolean ofDraw) {
            if (open >= isDrawOpen.length) {
                return NOTHING;
            }
            isDrawOpen[open] = ofDraw;
            open++;
            return ofDraw ? FRACTION : NODE;
        }

        private int dueBehindFraction(int kind) {
            if (kind != (isInEnd ? ']' : ':')) {
                return NOTHING;
            }
            int due = isInEnd ? BEHIND_NODE : NODE;
            isInEnd = false;
            return due;
        }

        private int dueBehindNode(int kind) {
            if (open > 0 && kind == ')') {
                open--;
                return BEHIND_NODE;
            }
            if (open > 0 && kind == ',') {
                return isDrawOpen[open - 1] ? FRACTION : NODE;
            }
            return NOTHING;
        }

        /** The text is one; what the players did on the way comes as the latest deed of A and of B. */
        private boolean goThroughNode(int above, long top, long bottom, int deedOfA, int deedOfB) {
            if (game.counts[Game.NODES] >= NODE_LIMIT || above > ABOVE_LIMIT) {
                return refuse(MANY, words.begin);
            }
            game.counts[Game.NODES]++;
            switch (words.kind) {
                case '[':
                    return goThroughEnd(top, bottom, deedOfA, deedOfB);
                case '?':
                    return goThroughDraw(above, top, bottom, deedOfA, deedOfB);
                default:
                    return goThroughChoice(above, top, bottom, deedOfA, deedOfB);
            }
        }

        private boolean goThroughEnd(long top, long bottom, int deedOfA, int deedOfB) {
            if (bottom >= TOO_LARGE) {
                return refuse(LARGE, words.begin);
            }
            words.advance();
            if (!goThroughFraction(false)) {
                return false;
            }
            words.advance();
            int end = Math.min(game.counts[Game.ENDS], NODE_LIMIT - 1);
            long sharedAbove = gcd(top, fractionBottom);
            long sharedBelow = gcd(fractionTop, bottom);
            endTops[end] = quotient(top, sharedAbove) * quotient(fractionTop, sharedBelow);
            endBottoms[end] = quotient(bottom, sharedBelow) * quotient(fractionBottom, sharedAbove);
            endDeedsOfA[end] = deedOfA;
            endDeedsOfB[end] = deedOfB;
            game.counts[Game.ENDS]++;
            return true;
        }

        /** Leaves it in least terms. */
        private boolean goThroughFraction(boolean ofDraw) {
            int begin = words.begin;
            boolean isBelow = words.kind == '-';
            if (isBelow) {
                words.advance();
            }
            long top = isBelow ? -words.value : words.value;
            long bottom = 1;
            words.advance();
            if (words.kind == '/') {
                words.advance();
                bottom = words.value;
                words.advance();
            }
            if (bottom == 0 || ofDraw && (top <= 0 || top > bottom)) {
                return refuse(NUMBER, begin);
            }
            long shared = gcd(top, bottom);
            fractionTop = quotient(top, shared);
            fractionBottom = quotient(bottom, shared);
            return true;
        }

        private boolean goThroughDraw(int above, long top, long bottom, int deedOfA, int deedOfB) {
            int begin = words.begin;
            if (bottom >= TOO_LARGE) {
                return refuse(LARGE, begin);
            }
            game.counts[Game.DRAWS]++;
            words.advance();
            int drawn = 0;
            long multiple = 1;
            long sum = 0;
            for (int i = 0; i < NODE_LIMIT && words.kind != ')'; i++) {
                words.advance();
                if (!goThroughFraction(true)) {
                    return false;
                }
                words.advance();
                // Once too large it is left as it is, so that it can't outgrow a long.
                if (multiple < TOO_LARGE) {
                    long next = lcm(multiple, fractionBottom);
                    sum = sum * quotient(next, multiple) + fractionTop * quotient(next, fractionBottom);
                    multiple = next;
                }
                long nextTop = top * fractionTop;
                long nextBottom = bottom * fractionBottom;
                long shared = gcd(nextTop, nextBottom);
                nextTop = quotient(nextTop, shared);
                nextBottom = quotient(nextBottom, shared);
                if (!goThroughNode(above + 1, nextTop, nextBottom, deedOfA, deedOfB)) {
                    return false;
                }
                drawn++;
            }
            words.advance();
            return endDraw(begin, drawn, multiple, sum);
        }

        private boolean endDraw(int begin, int drawn, long multiple, long sum) {
            if (drawn > WAY_LIMIT) {
                return refuse(MANY, begin);
            }
            if (multiple >= TOO_LARGE) {
                return refuse(LARGE, begin);
            }
            return sum == multiple || refuse(NUMBER, begin);
        }

        private boolean goThroughChoice(int above, long top, long bottom, int deedOfA, int deedOfB) {
            int begin = words.begin;
            int who = words.kind == 'A' ? A : B;
            Side side = game.sides[who];
            words.advance();
            int set = enterSet(side, begin, bottom, who == A ? deedOfA : deedOfB);
            if (set == NONE) {
                return false;
            }
            game.counts[Game.CHOICES]++;
            words.advance();
            int moves = 0;
            for (int i = 0; i < NODE_LIMIT && words.kind != ')'; i++) {
                words.advance();
                int deed = Side.deed(set, moves);
                int nextOfA = who == A ? deed : deedOfA;
                int nextOfB = who == B ? deed : deedOfB;
                if (!goThroughNode(above + 1, top, bottom, nextOfA, nextOfB)) {
                    return false;
                }
                moves++;
            }
            words.advance();
            return endChoice(begin, side, set, moves);
        }

        /** The set whose number is looked at; NONE when its node must be refused. */
        private int enterSet(Side side, int begin, long bottom, int deed) {
            int set = side.find(words.value);
            if (set == NONE && side.sets >= SET_LIMIT) {
                refuse(MANY, begin);
                return NONE;
            }
            if (bottom >= TOO_LARGE) {
                refuse(LARGE, begin);
                return NONE;
            }
            if (set == NONE) {
                return side.begin(words.value, deed);
            }
            if (side.deeds[set] != deed) {
                refuse(RECALL, begin);
                return NONE;
            }
            return set;
        }

        private boolean endChoice(int begin, Side side, int set, int moves) {
            if (moves > MOVE_LIMIT) {
                return refuse(MANY, begin);
            }
            if (side.moves[set] == 0) {
                side.moves[set] = moves;
            }
            return side.moves[set] == moves || refuse(MOVES, begin);
        }

        private void finish() {
            for (int i = 0; i < PLAYERS; i++) {
                if (game.sides[i].countPlans() > PLAN_LIMIT) {
                    refuse(MANY, words.length);
                    return;
                }
            }
            if (!findCommonNumber()) {
                refuse(LARGE, words.length);
                return;
            }
            for (int i = 0; i < PLAYERS; i++) {
                game.sides[i].numberLines();
            }
            if (!fillWeights()) {
                refuse(LARGE, words.length);
            }
        }

        private boolean findCommonNumber() {
            game.common = 1;
            for (int i = 0; i < game.counts[Game.ENDS]; i++) {
                if (endBottoms[i] >= TOO_LARGE) {
                    return false;
                }
                game.common = lcm(game.common, endBottoms[i]);
                if (game.common >= TOO_LARGE) {
                    return false;
                }
            }
            return true;
        }

        private boolean fillWeights() {
            for (int i = 0; i < game.counts[Game.ENDS]; i++) {
                long weight = quotient(game.common, endBottoms[i]) * endTops[i];
                if (Math.abs(weight) >= TOO_LARGE) {
                    return false;
                }
                int lineOfA = game.sides[A].lineOf(endDeedsOfA[i]);
                int lineOfB = game.sides[B].lineOf(endDeedsOfB[i]);
                game.weights[lineOfA][lineOfB] += weight;
            }
            return true;
        }
    }

    /** How often a player comes to each of its lines, if the others let it, in parts of a whole: that of line 0. */
    private static final class Mix {
        final Big[] parts = new Big[LINE_LIMIT];
        private final Big sum = new Big(ROOM);

        Mix() {
            for (int i = 0; i < LINE_LIMIT; i++) {
                parts[i] = new Big(ROOM);
            }
        }

        boolean isMix(Side side) {
            for (int i = 0; i < side.lines; i++) {
                if (parts[i].sign() < 0) {
                    return false;
                }
            }
            for (int i = 0; i < side.sets; i++) {
                sum.put(0);
                for (int j = 0; j < side.moves[i]; j++) {
                    sum.plus(parts[side.firstLines[i] + j]);
                }
                if (sum.order(parts[side.parentLines[i]]) != 0) {
                    return false;
                }
            }
            return parts[0].sign() > 0;
        }
    }

    /** The way of a player, in least terms. */
    private static final class Way {
        private final int[] tops = new int[SET_LIMIT * MOVE_LIMIT];
        private final int[] bottoms = new int[SET_LIMIT * MOVE_LIMIT];
        private final int[] taken = new int[SET_LIMIT];

        Way() {
            for (int i = 0; i < SET_LIMIT * MOVE_LIMIT; i++) {
                bottoms[i] = 1;
            }
        }

        void restart() {
            for (int i = 0; i < SET_LIMIT * MOVE_LIMIT; i++) {
                tops[i] = i % MOVE_LIMIT == 0 ? 1 : 0;
                bottoms[i] = 1;
            }
        }

        void putChance(int set, int move, int top, int bottom) {
            long shared = gcd(top, bottom);
            tops[set * MOVE_LIMIT + move] = (int) quotient(top, shared);
            bottoms[set * MOVE_LIMIT + move] = (int) quotient(bottom, shared);
        }

        boolean isGood(Side side) {
            for (int i = 0; i < side.sets; i++) {
                long bottom = bottomOf(side, i);
                long sum = 0;
                for (int j = 0; j < side.moves[i]; j++) {
                    sum += topOf(i, j, bottom);
                }
                if (sum != bottom) {
                    return false;
                }
            }
            return true;
        }

        /**
         * What a set's chances have in common below. If they are 1 together it is 10^8 at most: each of its prime
         * powers must then stand below two of the four, else the sum could not be whole.
         */
        private long bottomOf(Side side, int set) {
            long bottom = 1;
            for (int i = 0; i < side.moves[set]; i++) {
                bottom = lcm(bottom, bottoms[set * MOVE_LIMIT + i]);
            }
            return bottom;
        }

        private long topOf(int set, int move, long bottom) {
            int i = set * MOVE_LIMIT + move;
            return quotient(bottom, bottoms[i]) * tops[i];
        }

        /** The way is good. */
        void spread(Side side, Mix mix) {
            spreadLine(side, NONE, mix.parts[0]);
            for (int i = 0; i < side.sets; i++) {
                for (int j = 0; j < side.moves[i]; j++) {
                    spreadLine(side, Side.deed(i, j), mix.parts[side.firstLines[i] + j]);
                }
            }
        }

        /** Sets that the line does not go through give their bottom, so that all lines have one whole. */
        private void spreadLine(Side side, int deed, Big part) {
            markTaken(side, deed);
            part.put(1);
            for (int i = 0; i < side.sets; i++) {
                long bottom = bottomOf(side, i);
                part.scale(taken[i] == NONE ? bottom : topOf(i, taken[i], bottom));
            }
        }

        private void markTaken(Side side, int deed) {
            for (int i = 0; i < SET_LIMIT; i++) {
                taken[i] = NONE;
            }
            int latest = deed;
            for (int i = 0; i < SET_LIMIT && latest != NONE; i++) {
                taken[Side.setOf(latest)] = Side.moveOf(latest);
                latest = side.deeds[Side.setOf(latest)];
            }
        }
    }

    /** What is to be expected against a mix of the other player, and the best plan against it. */
    private static final class Reply {
        final int[] moves = new int[SET_LIMIT];
        private final boolean[] isReached = new boolean[SET_LIMIT];
        private final Big[] gains = new Big[LINE_LIMIT];
        private final Big factor = new Big(2);
        private final Big term = new Big(DOUBLE_ROOM);

        Reply() {
            for (int i = 0; i < LINE_LIMIT; i++) {
                gains[i] = new Big(ROOM);
            }
        }

        /** What A wins with the best plan, times the common number and the mix's whole. */
        Big worth() {
            return gains[0];
        }

        void meet(Game game, Mix mixOfA, Mix mixOfB, Big sum) {
            gather(game, A, mixOfB);
            sum.put(0);
            for (int i = 0; i < game.sides[A].lines; i++) {
                term.putProduct(gains[i], mixOfA.parts[i]);
                sum.plus(term);
            }
        }

        void work(Game game, int who, Mix against) {
            gather(game, who, against);
            Side side = game.sides[who];
            // Sets behind a set come later in the order, so what they are worth is known when it is needed.
            for (int i = side.sets - 1; i >= 0; i--) {
                moves[i] = bestMove(side, i, who == A ? 1 : -1);
                gains[side.parentLines[i]].plus(gains[side.firstLines[i] + moves[i]]);
            }
            dropUnreached(side);
        }

        private void gather(Game game, int who, Mix against) {
            int others = game.sides[other(who)].lines;
            for (int i = 0; i < game.sides[who].lines; i++) {
                gains[i].put(0);
                for (int j = 0; j < others; j++) {
                    long weight = game.weight(who, i, j);
                    if (weight != 0) {
                        factor.put(weight);
                        term.putProduct(against.parts[j], factor);
                        gains[i].plus(term);
                    }
                }
            }
        }

        private int bestMove(Side side, int set, int direction) {
            int best = 0;
            for (int i = 1; i < side.moves[set]; i++) {
                Big gain = gains[side.firstLines[set] + i];
                if (gain.order(gains[side.firstLines[set] + best]) == direction) {
                    best = i;
                }
            }
            return best;
        }

        /** Where the plan itself does not lead, no move is better than another, so the least one is due. */
        private void dropUnreached(Side side) {
            for (int i = 0; i < side.sets; i++) {
                int deed = side.deeds[i];
                isReached[i] = deed == NONE
                        || isReached[Side.setOf(deed)] && moves[Side.setOf(deed)] == Side.moveOf(deed);
                if (!isReached[i]) {
                    moves[i] = 0;
                }
            }
        }
    }

    /**
     * Finds the value and best mixes by the simplex method, in whole numbers.
     *
     * <p>Unknown are A's share x of each line but line 0, and for each set of B the least q that B can hold A to
     * from there on. For each line of B but line 0: q of its set, less the q of all sets next behind it, is at most
     * the sum of weights times x. For each set of A: its moves' x together are at most the x of the line before it.
     * The goal: the q of B's sets with nothing before them, and the weights at line 0 of B times x.
     *
     * <p>Two things are moved so that nothing is below 0 and the start (all unknown 0) is allowed. Each q is counted
     * from a floor below anything it can be. And to leave a part of x unused costs more than all ends can bring,
     * so in the best solution "at most" is "equal" for A's sets; the floors do the same for B's mix.
     */
    private static final class Solver {
        private static final int SIZE = LINE_LIMIT + SET_LIMIT;
        private static final int STEP_LIMIT = 1000000;

        private final Big[] cells = new Big[SIZE * SIZE];
        private final int[] rowUnknowns = new int[SIZE];
        private final int[] columnUnknowns = new int[SIZE];
        private final long[] floors = new long[SET_LIMIT];
        private int rows = 0;
        private int columns = 0;
        private int linesOfA = 1;
        private int linesOfB = 1;
        private long shift = 0;
        /** All cells are to be read as divided by this. */
        private final Big scale = new Big(ROOM);
        private final Big left = new Big(DOUBLE_ROOM);
        private final Big right = new Big(DOUBLE_ROOM);
        private final Divider divider = new Divider();

        Solver() {
            for (int i = 0; i < SIZE * SIZE; i++) {
                cells[i] = new Big(ROOM);
            }
        }

        /** The row behind the last is the goal's, the column behind the last the bounds'. */
        private Big cell(int row, int column) {
            return cells[row * SIZE + column];
        }

        void work(Game game) {
            setUp(game);
            for (int i = 0; i < STEP_LIMIT; i++) {
                int column = entering();
                int row = column == NONE ? NONE : leaving(column);
                if (row == NONE) {
                    return;
                }
                exchange(row, column);
            }
        }

        /** The value times the common number and the scale. */
        Big top() {
            right.put(shift);
            left.putProduct(scale, right);
            left.plus(cell(rows, columns));
            return left;
        }

        void handOver(Mix mixOfA, Mix mixOfB) {
            for (int i = 0; i < LINE_LIMIT; i++) {
                mixOfA.parts[i].put(0);
                mixOfB.parts[i].put(0);
            }
            mixOfA.parts[0].copy(scale);
            mixOfB.parts[0].copy(scale);
            for (int i = 0; i < rows; i++) {
                if (rowUnknowns[i] < linesOfA - 1) {
                    mixOfA.parts[rowUnknowns[i] + 1].copy(cell(i, columns));
                }
            }
            for (int i = 0; i < columns; i++) {
                int bound = columnUnknowns[i] - columns;
                if (bound >= 0 && bound < linesOfB - 1) {
                    mixOfB.parts[bound + 1].copy(cell(rows, i));
                }
            }
        }

        private void setUp(Game game) {
            linesOfA = game.sides[A].lines;
            linesOfB = game.sides[B].lines;
            rows = linesOfB - 1 + game.sides[A].sets;
            columns = linesOfA - 1 + game.sides[B].sets;
            long unit = game.sumOfSizes() + 1;
            clear();
            setFloors(game.sides[B], unit);
            setUpLinesOfB(game);
            setUpSetsOfA(game.sides[A]);
            setUpGoal(game, unit);
        }

        private void clear() {
            for (int i = 0; i <= rows; i++) {
                for (int j = 0; j <= columns; j++) {
                    cell(i, j).put(0);
                }
            }
            for (int i = 0; i < rows; i++) {
                rowUnknowns[i] = columns + i;
            }
            for (int i = 0; i < columns; i++) {
                columnUnknowns[i] = i;
            }
            scale.put(1);
        }

        /** A floor lies one unit below those of all sets behind it together, so that every bound is above 0. */
        private void setFloors(Side side, long unit) {
            for (int i = side.sets - 1; i >= 0; i--) {
                floors[i] = unit;
                for (int j = i + 1; j < side.sets; j++) {
                    int deed = side.deeds[j];
                    if (deed != NONE && Side.setOf(deed) == i) {
                        floors[i] += floors[j];
                    }
                }
            }
        }

        private void setUpLinesOfB(Game game) {
            Side side = game.sides[B];
            for (int i = 0; i < side.sets; i++) {
                for (int j = 0; j < side.moves[i]; j++) {
                    setUpLineOfB(game, i, side.firstLines[i] + j);
                }
            }
        }

        private void setUpLineOfB(Game game, int set, int line) {
            Side side = game.sides[B];
            int row = line - 1;
            long bound = game.weights[0][line] + floors[set];
            for (int i = 1; i < linesOfA; i++) {
                cell(row, i - 1).put(-game.weights[i][line]);
            }
            cell(row, linesOfA - 1 + set).put(1);
            for (int i = 0; i < side.sets; i++) {
                if (side.parentLines[i] == line) {
                    cell(row, linesOfA - 1 + i).put(-1);
                    bound -= floors[i];
                }
            }
            cell(row, columns).put(bound);
        }

        private void setUpSetsOfA(Side side) {
            for (int i = 0; i < side.sets; i++) {
                int row = linesOfB - 1 + i;
                for (int j = 0; j < side.moves[i]; j++) {
                    cell(row, side.firstLines[i] + j - 1).put(1);
                }
                if (side.parentLines[i] == 0) {
                    cell(row, columns).put(1);
                } else {
                    cell(row, side.parentLines[i] - 1).put(-1);
                }
            }
        }

        private void setUpGoal(Game game, long unit) {
            Side sideOfA = game.sides[A];
            Side sideOfB = game.sides[B];
            for (int i = 1; i < linesOfA; i++) {
                long gain = game.weights[i][0] + unit * (1 - sideOfA.countChildren(i));
                cell(rows, i - 1).put(-gain);
            }
            shift = game.weights[0][0] - unit * sideOfA.countChildren(0);
            for (int i = 0; i < sideOfB.sets; i++) {
                if (sideOfB.parentLines[i] == 0) {
                    cell(rows, linesOfA - 1 + i).put(-1);
                    shift -= floors[i];
                }
            }
        }

        /** Of all that would help the one with the least number: so no table ever comes back (Bland's rule). */
        private int entering() {
            int best = NONE;
            for (int i = 0; i < columns; i++) {
                if (cell(rows, i).below && (best == NONE || columnUnknowns[i] < columnUnknowns[best])) {
                    best = i;
                }
            }
            return best;
        }

        private int leaving(int column) {
            int best = NONE;
            for (int i = 0; i < rows; i++) {
                if (cell(i, column).sign() > 0 && (best == NONE || leavesBefore(i, best, column))) {
                    best = i;
                }
            }
            return best;
        }

        private boolean leavesBefore(int row, int best, int column) {
            left.putProduct(cell(row, columns), cell(best, column));
            right.putProduct(cell(best, columns), cell(row, column));
            int order = left.order(right);
            return order < 0 || order == 0 && rowUnknowns[row] < rowUnknowns[best];
        }

        private void exchange(int row, int column) {
            divider.prepare(scale);
            Big pivot = cell(row, column);
            for (int i = 0; i <= rows; i++) {
                for (int j = 0; j <= columns && i != row; j++) {
                    if (j != column) {
                        renew(cell(i, j), pivot, cell(i, column), cell(row, j));
                    }
                }
            }
            for (int i = 0; i <= rows; i++) {
                if (i != row) {
                    cell(i, column).negate();
                }
            }
            left.copy(scale);
            scale.copy(pivot);
            pivot.copy(left);
            int unknown = rowUnknowns[row];
            rowUnknowns[row] = columnUnknowns[column];
            columnUnknowns[column] = unknown;
        }

        private void renew(Big cell, Big pivot, Big inColumn, Big inRow) {
            boolean changes = inColumn.length > 0 && inRow.length > 0;
            if (!changes && cell.length == 0) {
                return;
            }
            left.putProduct(cell, pivot);
            if (changes) {
                right.putProduct(inColumn, inRow);
                right.negate();
                left.plus(right);
            }
            divider.divide(left);
            cell.copy(left);
        }
    }
}
