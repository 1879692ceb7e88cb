import java.util.Arrays;

/**
 * Numbers built from fractions by sums, products, quotients and square roots, held exactly in a
 * tower of at most four roots.
 *
 * <p>Inside, root k is held as a whole multiple R_k of r_k whose square has whole coordinates, so
 * that every number of the tower is a row of whole numbers over one whole bottom. A VECTOR of level
 * k is 2^k whole numbers, first those of x, then those of y, for x + y R_k. A RATIO is a bottom
 * with a vector behind it. All whole numbers lie in one row of cells that is used as a stack: what a
 * reckoning needs is put on top and taken off again, so that calls make no objects.
 */
public final class RootTowers {
    public static final int NONE = -1, ZERO = -2, NEGATIVE = -3, DEEP = -4, WIDE = -5;

    private static final int NO_SIGN = -2;
    private static final int MOST_ELEMENTS = 60;
    private static final int MOST_ROOTS = 4;
    private static final int MOST_COORDINATES = 16;
    private static final int COORDINATE_FIGURES = 60;
    private static final int EQUATION_FIGURES = 400;
    private static final int MOST_DIGITS = 6;

    private final Numbers numbers;
    private final Field field;
    private final Elements elements;
    private final Least least;
    private final Script script;

    public RootTowers() {
        numbers = new Numbers();
        field = new Field(numbers);
        elements = new Elements(numbers, field);
        least = new Least(numbers, field);
        script = new Script(numbers);
        beginAnew();
    }

    public int fraction(long up, long down) {
        if (elements.isFull()) {
            return NONE;
        }
        if (down == 0) {
            return ZERO;
        }
        int ratio = numbers.whole(down);
        numbers.whole(up);
        return elements.adopt(0, ratio);
    }

    public int apply(int op, int a, int b) {
        if (op < 0 || op > 3 || !elements.has(a) || !elements.has(b) || elements.isFull()) {
            return NONE;
        }
        if (op == 3 && elements.isNought(b)) {
            return ZERO;
        }
        int k = Math.max(elements.rank[a], elements.rank[b]);
        int p = elements.widened(k, a);
        int q = elements.widened(k, b);
        if (op == 2) {
            return elements.adopt(k, field.ratioProduct(k, p, q));
        }
        if (op == 3) {
            return elements.adopt(k, field.ratioQuotient(k, p, q));
        }
        return elements.adopt(k, field.ratioSum(k, p, q, op == 0 ? 1 : -1));
    }

    public int plain(int a) throws ArithmeticException {
        if (!elements.has(a) || elements.isFull()) {
            return NONE;
        }
        if (elements.isNought(a)) {
            throw new ArithmeticException();
        }
        int k = elements.rank[a];
        int one = field.unitRatio(k, 0);
        return elements.adopt(k, field.ratioQuotient(k, one, elements.place[a]));
    }

    public int root(int a) {
        if (!elements.has(a) || elements.isFull()) {
            return NONE;
        }
        if (elements.signAt(elements.rank[a], numbers.next(elements.place[a])) < 0) {
            return NEGATIVE;
        }
        int k = field.height;
        int found = field.ratioRoot(k, elements.widened(k, a));
        if (found < 0 && k >= MOST_ROOTS) {
            numbers.rest();
            return DEEP;
        }
        if (found < 0) {
            elements.join(a);
            return elements.adopt(k + 1, field.unitRatio(k + 1, 1 << k));
        }
        if (elements.signAt(k, numbers.next(found)) < 0) {
            numbers.turn(numbers.next(found));
        }
        return elements.adopt(k, found);
    }

    public int isSquare(int a) {
        if (!elements.has(a)) {
            return NONE;
        }
        int k = field.height;
        int found = field.ratioRoot(k, elements.widened(k, a));
        numbers.rest();
        return found < 0 ? 0 : 1;
    }

    public int sign(int a) {
        if (!elements.has(a)) {
            return NO_SIGN;
        }
        return elements.signAt(elements.rank[a], numbers.next(elements.place[a]));
    }

    public int compare(int a, int b) {
        if (!elements.has(a) || !elements.has(b)) {
            return NO_SIGN;
        }
        int k = Math.max(elements.rank[a], elements.rank[b]);
        int p = elements.widened(k, a);
        int q = elements.widened(k, b);
        int difference = field.ratioSum(k, p, q, -1);
        int s = elements.signAt(k, numbers.next(difference));
        numbers.rest();
        return s;
    }

    public int level(int a) {
        return elements.has(a) ? elements.rank[a] : NONE;
    }

    public int coordinate(int a, int i) {
        if (!elements.has(a) || i < 0 || i >= 1 << field.height) {
            return NONE;
        }
        return resulted(elements.part(a, i));
    }

    public int radicand(int k, int i) {
        if (k < 1 || k > field.height || i < 0 || i >= 1 << (k - 1)) {
            return NONE;
        }
        return resulted(field.radicandPart(k, i));
    }

    public int degree(int a) {
        if (!elements.has(a)) {
            return NONE;
        }
        least.prepare(a, elements.rank[a], elements.place[a]);
        return least.degree;
    }

    public int equation(int a, int i) {
        if (!elements.has(a) || i < 0 || i > MOST_COORDINATES) {
            return NONE;
        }
        least.prepare(a, elements.rank[a], elements.place[a]);
        if (i > least.degree) {
            return NONE;
        }
        int pair = least.part(i, elements.place[a]);
        if (numbers.isWider(pair, EQUATION_FIGURES)) {
            numbers.rest();
            return WIDE;
        }
        return resulted(pair);
    }

    public int cut(int a, int digits) {
        if (!elements.has(a) || digits < 0 || digits > MOST_DIGITS) {
            return NONE;
        }
        if (elements.isBeyondCut(a, elements.floorOf(a, 0))) {
            numbers.rest();
            return NONE;
        }
        int floor = elements.floorOf(a, digits);
        int unit = numbers.whole(Numbers.TENS[digits]);
        return resulted(numbers.lowest(floor, unit));
    }

    public int denest(int a, int which) {
        if (!elements.has(a) || which < 0 || which > 1 || elements.rank[a] > 1) {
            return NONE;
        }
        int pair = elements.denested(a, which == 0 ? 1 : -1);
        if (pair < 0) {
            numbers.rest();
            return NONE;
        }
        return resulted(pair);
    }

    public int text(int a) {
        if (!elements.has(a)) {
            return NONE;
        }
        script.begin();
        for (int i = 0; i < 1 << elements.rank[a]; i++) {
            script.write(elements.part(a, i), i);
            numbers.rest();
        }
        return script.end();
    }

    public int letter(int i) throws ArrayIndexOutOfBoundsException {
        if (i < 0 || i >= script.length) {
            throw new ArrayIndexOutOfBoundsException();
        }
        return script.letters[i];
    }

    public int result(int what) {
        if (what == 0) {
            return numbers.signAt(Numbers.RESULT_TOP);
        }
        if (what == 1) {
            return numbers.figures(Numbers.RESULT_TOP);
        }
        return what == 2 ? numbers.figures(Numbers.RESULT_BOTTOM) : NO_SIGN;
    }

    public int figure(int side, int i) {
        if (side < 0 || side > 1) {
            return NONE;
        }
        int p = side == 0 ? Numbers.RESULT_TOP : Numbers.RESULT_BOTTOM;
        return i < 0 || i >= numbers.figures(p) ? NONE : numbers.figureAt(p, i);
    }

    public int told(int what) {
        if (what == 0) {
            return field.height;
        }
        return what == 1 ? elements.count : NONE;
    }

    public int clear() {
        int before = elements.count;
        beginAnew();
        return before;
    }

    private void beginAnew() {
        numbers.reset();
        field.reset();
        elements.reset();
        script.length = 0;
        numbers.settle();
    }

    private int resulted(int pair) {
        numbers.keepResult(pair);
        numbers.rest();
        return 1;
    }

    /**
     * Whole numbers in one row of cells: at its address a number has twice the count of its limbs,
     * and 1 more if it is below 0, and behind that the limbs, lowest first. What makes a number
     * puts it on top.
     */
    private static final class Numbers {
        static final int BASE = 1000000000;
        static final int LIMB_FIGURES = 9;
        /** A column of products is brought below this, so that one product more still fits. */
        static final long FULL = 8000000000000000000L;
        static final long FULL_CARRY = 8000000000L;
        static final int[] TENS = {
            1, 10, 100, 1000, 10000, 100000, 1000000, 10000000, 100000000, 1000000000
        };
        static final int FIRST_ROOM = 8192;
        static final int RESULT_ROOM = 64;
        static final int RESULT_TOP = 0;
        static final int RESULT_BOTTOM = RESULT_ROOM;
        static final int ONE = 2 * RESULT_ROOM;
        /** A bit for each remainder by 16 that a square can leave. */
        static final int SQUARES_BY_16 = 0x213;

        int[] cell;
        int top;
        /** Up to here stand the tower and the elements. */
        int firm;
        /** Up to here stands what outlives a call: the above and the latest equation. */
        int kept;

        Numbers() {
            cell = new int[FIRST_ROOM];
        }

        void reset() {
            top = RESULT_TOP;
            whole(0);
            top = RESULT_BOTTOM;
            whole(1);
            top = ONE;
            whole(1);
        }

        void settle() {
            firm = top;
            kept = top;
        }

        void rest() {
            top = kept;
        }

        void room(int n) {
            int need = top + n;
            if (need > cell.length) {
                cell = Arrays.copyOf(cell, Math.max(need, 2 * cell.length));
            }
        }

        int next(int p) {
            return p + 1 + (cell[p] >> 1);
        }

        int skip(int p, int n) {
            int at = p;
            for (int i = 0; i < n; i++) {
                at += 1 + (cell[at] >> 1);
            }
            return at;
        }

        int signAt(int p) {
            return cell[p] == 0 ? 0 : 1 - 2 * (cell[p] & 1);
        }

        boolean isBelow(int p) {
            return (cell[p] & 1) == 1;
        }

        /** Whether n numbers that stand one behind the other are all 0, each then a single cell. */
        boolean areNought(int p, int n) {
            for (int i = 0; i < n; i++) {
                if (cell[p + i] != 0) {
                    return false;
                }
            }
            return true;
        }

        /** Ends the number at p, of at most n limbs, without noughts in front, as the top one. */
        int closed(int p, int n, boolean below) {
            int most = n;
            while (most > 0 && cell[p + most] == 0) {
                most--;
            }
            cell[p] = most == 0 ? 0 : 2 * most + (below ? 1 : 0);
            top = p + 1 + most;
            return p;
        }

        int whole(long value) {
            room(4);
            int p = top;
            long left = value;
            for (int i = 1; i <= 3; i++) {
                long limb = left % BASE;
                cell[p + i] = (int) (limb < 0 ? -limb : limb);
                left /= BASE;
            }
            return closed(p, 3, value < 0);
        }

        void noughts(int n) {
            room(n);
            Arrays.fill(cell, top, top + n, 0);
            top += n;
        }

        /** Copies n numbers that stand one behind the other. */
        int copied(int p, int n) {
            int length = skip(p, n) - p;
            room(length);
            int to = top;
            System.arraycopy(cell, p, cell, to, length);
            top = to + length;
            return to;
        }

        /** Moves all from an address to the top down, over what is no longer needed. */
        int slid(int to, int from) {
            int length = top - from;
            System.arraycopy(cell, from, cell, to, length);
            top = to + length;
            return to;
        }

        /** Changes the signs of all numbers from p to the top, of a ratio at most. */
        void turn(int p) {
            int at = p;
            for (int i = 0; i <= MOST_COORDINATES && at < top; i++) {
                if (cell[at] != 0) {
                    cell[at] ^= 1;
                }
                at += 1 + (cell[at] >> 1);
            }
        }

        int sizeOrder(int p, int q) {
            int m = cell[p] >> 1;
            int n = cell[q] >> 1;
            if (m != n) {
                return m < n ? -1 : 1;
            }
            for (int i = n; i > 0; i--) {
                int d = cell[p + i] - cell[q + i];
                if (d != 0) {
                    return d < 0 ? -1 : 1;
                }
            }
            return 0;
        }

        boolean areSame(int p, int q) {
            return cell[p] == cell[q] && sizeOrder(p, q) == 0;
        }

        /** p + q, or p - q if the factor is below 0. */
        int sum(int p, int q, int factor) {
            boolean pBelow = isBelow(p);
            boolean qBelow = isBelow(q) != (factor < 0);
            boolean apart = cell[p] != 0 && cell[q] != 0 && pBelow != qBelow;
            boolean turned = sizeOrder(p, q) < 0;
            int larger = turned ? q : p;
            int smaller = turned ? p : q;
            int m = cell[larger] >> 1;
            int n = cell[smaller] >> 1;
            room(m + 2);
            int[] c = cell;
            int r = top;
            int carry = 0;
            for (int i = 1; i <= m; i++) {
                int second = i > n ? 0 : apart ? -c[smaller + i] : c[smaller + i];
                int limb = c[larger + i] + second + carry;
                carry = limb >= BASE ? 1 : limb < 0 ? -1 : 0;
                c[r + i] = limb - carry * BASE;
            }
            c[r + m + 1] = carry;
            return closed(r, m + 1, turned ? qBelow : pBelow);
        }

        int times(int p, int q) {
            int m = cell[p] >> 1;
            int n = cell[q] >> 1;
            room(m + n + 1);
            int r = top;
            if (m == 0 || n == 0) {
                return closed(r, 0, false);
            }
            int[] c = cell;
            long column = 0;
            for (int k = 0; k < m + n - 1; k++) {
                long over = 0;
                int last = Math.min(k, m - 1);
                for (int i = Math.max(0, k - n + 1); i <= last; i++) {
                    column += (long) c[p + 1 + i] * c[q + 1 + k - i];
                    if (column >= FULL) {
                        column -= FULL;
                        over += FULL_CARRY;
                    }
                }
                long carry = column / BASE;
                c[r + 1 + k] = (int) (column - carry * BASE);
                column = carry + over;
            }
            c[r + m + n] = (int) column;
            return closed(r, m + n, ((c[p] ^ c[q]) & 1) == 1);
        }

        /** p times the n-th power of the base. */
        int raised(int p, int n) {
            int m = cell[p] >> 1;
            room(m + n + 1);
            int r = top;
            Arrays.fill(cell, r + 1, r + 1 + n, 0);
            System.arraycopy(cell, p + 1, cell, r + 1 + n, m);
            return closed(r, m + n, isBelow(p));
        }

        /** Takes the n lowest limbs from the number p, which is on top and not below 0. */
        void lower(int p, int n) {
            int left = Math.max((cell[p] >> 1) - n, 0);
            if (left > 0) {
                System.arraycopy(cell, p + 1 + n, cell, p + 1, left);
            }
            closed(p, left, false);
        }

        /** Halves the number p, which is on top and not below 0, and drops what is left over. */
        void halve(int p) {
            int n = cell[p] >> 1;
            int odd = 0;
            for (int i = n; i > 0; i--) {
                int limb = cell[p + i];
                cell[p + i] = (limb >> 1) + odd * (BASE / 2);
                odd = limb & 1;
            }
            closed(p, n, false);
        }

        /** The quotient, cut towards 0, and the rest behind it; a divisor 0 leaves all as rest. */
        int divided(int p, int q) {
            if (cell[q] == 0 || sizeOrder(p, q) < 0) {
                int start = top;
                noughts(1);
                copied(p, 1);
                return start;
            }
            return cell[q] >> 1 == 1 ? dividedByLimb(p, q) : dividedByLimbs(p, q);
        }

        private int dividedByLimb(int p, int q) {
            int m = cell[p] >> 1;
            room(m + 3);
            int r = top;
            long by = Math.max(cell[q + 1], 1);
            long left = 0;
            for (int i = m; i > 0; i--) {
                long limb = left * BASE + cell[p + i];
                long part = limb / by;
                cell[r + i] = (int) part;
                left = limb - part * by;
            }
            closed(r, m, ((cell[p] ^ cell[q]) & 1) == 1);
            int rest = top;
            cell[rest + 1] = (int) left;
            closed(rest, 1, isBelow(p));
            return r;
        }

        /** Long division; both are first multiplied so that the divisor's highest limb is large. */
        private int dividedByLimbs(int p, int q) {
            int m = cell[p] >> 1;
            int n = cell[q] >> 1;
            room(2 * m + 8);
            int r = top;
            int u = r + m - n + 3;
            int v = u + m + 1;
            int factor = BASE / (cell[q + n] + 1);
            multiply(p, m, factor, u);
            multiply(q, n, factor, v);
            for (int j = m - n; j >= 0; j--) {
                cell[r + 1 + j] = quotientLimb(u + j, v, n);
            }
            long left = 0;
            for (int i = n - 1; i >= 0; i--) {
                long limb = left * BASE + cell[u + i];
                cell[u + i] = (int) (limb / factor);
                left = limb % factor;
            }
            closed(r, m - n + 1, ((cell[p] ^ cell[q]) & 1) == 1);
            int rest = top;
            System.arraycopy(cell, u, cell, rest + 1, n);
            closed(rest, n, isBelow(p));
            return r;
        }

        /** Writes the n limbs of p times a factor, and one limb more, from a cell on. */
        private void multiply(int p, int n, int factor, int to) {
            long carry = 0;
            for (int i = 0; i < n; i++) {
                long limb = (long) cell[p + 1 + i] * factor + carry;
                carry = limb / BASE;
                cell[to + i] = (int) (limb - carry * BASE);
            }
            cell[to + n] = (int) carry;
        }

        /** One limb of a quotient; takes that multiple of the n limbs at v from those at u. */
        private int quotientLimb(int u, int v, int n) {
            int[] c = cell;
            long high = (long) c[u + n] * BASE + c[u + n - 1];
            long by = Math.max(c[v + n - 1], 1);
            long guess = high / by;
            long left = high - guess * by;
            for (int i = 0; i < 3 && left < BASE; i++) {
                if (guess < BASE && guess * c[v + n - 2] <= left * BASE + c[u + n - 2]) {
                    break;
                }
                guess--;
                left += by;
            }
            long carry = 0;
            for (int i = 0; i < n; i++) {
                long taken = guess * c[v + i] + carry;
                carry = taken / BASE;
                int limb = c[u + i] - (int) (taken - carry * BASE);
                if (limb < 0) {
                    limb += BASE;
                    carry++;
                }
                c[u + i] = limb;
            }
            c[u + n] = (int) (c[u + n] - carry);
            if (c[u + n] >= 0) {
                return (int) guess;
            }
            int back = 0;
            for (int i = 0; i < n; i++) {
                int limb = c[u + i] + c[v + i] + back;
                back = limb >= BASE ? 1 : 0;
                c[u + i] = back == 0 ? limb : limb - BASE;
            }
            c[u + n] += back;
            return (int) (guess - 1);
        }

        /** The greatest whole number that is at most p / q, for q above 0. */
        int floor(int p, int q) {
            int r = divided(p, q);
            boolean lower = isBelow(next(r));
            top = next(r);
            return lower ? slid(r, sum(r, ONE, -1)) : r;
        }

        /** The greatest common divisor, not below 0. */
        int divisor(int p, int q) {
            boolean turned = sizeOrder(p, q) < 0;
            int n = Math.max(cell[p] >> 1, cell[q] >> 1);
            room(2 * n + 6);
            int start = top;
            int a = start;
            int b = start + n + 2;
            place(turned ? q : p, a);
            place(turned ? p : q, b);
            top = b + n + 2;
            int above = top;
            for (int i = 0; i < 44 * n + 8 && cell[b] != 0 && cell[a] > 4; i++) {
                if (!leaped(a, b)) {
                    int rest = next(cell[b] == 2 ? dividedByLimb(a, b) : dividedByLimbs(a, b));
                    place(rest, a);
                    int c = a;
                    a = b;
                    b = c;
                    top = above;
                }
            }
            if (cell[b] != 0) {
                smallDivisor(a, b);
            }
            top = next(a);
            return slid(start, a);
        }

        /** Copies a number without its sign to an address that has room for it. */
        private void place(int p, int to) {
            int n = cell[p] >> 1;
            System.arraycopy(cell, p + 1, cell, to + 1, n);
            cell[to] = 2 * n;
        }

        /** For numbers of at most two limbs, not below 0: a becomes their common divisor. */
        private void smallDivisor(int a, int b) {
            long x = value(a);
            long y = value(b);
            for (int i = 0; i < 100 && y != 0; i++) {
                long z = x % y;
                x = y;
                y = z;
            }
            cell[a + 1] = (int) (x % BASE);
            cell[a + 2] = (int) (x / BASE);
            cell[a] = cell[a + 2] != 0 ? 4 : 2;
        }

        private long value(int p) {
            int n = cell[p] >> 1;
            long high = n > 1 ? cell[p + 2] : 0;
            return high * BASE + (n > 0 ? cell[p + 1] : 0);
        }

        /**
         * Does at once all the steps of a common divisor's search that the 18 highest figures of a
         * and b settle (Lehmer); false if they settle none.
         */
        private boolean leaped(int a, int b) {
            int n = cell[a] >> 1;
            int m = cell[b] >> 1;
            if (m < n - 1) {
                return false;
            }
            Arrays.fill(cell, b + 1 + m, b + 1 + n, 0);
            int shift = LIMB_FIGURES - limbFigures(cell[a + n]);
            long x = highFigures(a, n, shift);
            long y = highFigures(b, n, shift);
            long xa = 1, xb = 0, ya = 0, yb = 1;
            for (int i = 0; i < 100 && y + ya > 0 && y + yb > 0; i++) {
                long q = (x + xa) / (y + ya);
                if (q >= BASE || q != (x + xb) / (y + yb)) {
                    break;
                }
                long za = xa - q * ya;
                long zb = xb - q * yb;
                if (Math.abs(za) >= BASE || Math.abs(zb) >= BASE) {
                    break;
                }
                long z = x - q * y;
                x = y;
                y = z;
                xa = ya;
                xb = yb;
                ya = za;
                yb = zb;
            }
            if (xb == 0) {
                return false;
            }
            long carryA = 0, carryB = 0;
            for (int i = 1; i <= n; i++) {
                long limbA = cell[a + i], limbB = cell[b + i];
                carryA += xa * limbA + xb * limbB;
                carryB += ya * limbA + yb * limbB;
                cell[a + i] = (int) Math.floorMod(carryA, (long) BASE);
                cell[b + i] = (int) Math.floorMod(carryB, (long) BASE);
                carryA = Math.floorDiv(carryA, (long) BASE);
                carryB = Math.floorDiv(carryB, (long) BASE);
            }
            shorten(a, n);
            shorten(b, n);
            return true;
        }

        private void shorten(int p, int n) {
            int most = n;
            while (most > 0 && cell[p + most] == 0) {
                most--;
            }
            cell[p] = 2 * most;
        }

        /** The 18 figures from limb n down, its first shift figures left out as noughts. */
        private long highFigures(int p, int n, int shift) {
            long high = (long) cell[p + n] * BASE + cell[p + n - 1];
            return high * TENS[shift] + cell[p + n - 2] / TENS[LIMB_FIGURES - shift];
        }

        private static int limbFigures(int limb) {
            int n = 1;
            while (n < LIMB_FIGURES && limb >= TENS[n]) {
                n++;
            }
            return n;
        }

        /** The greatest whole number whose square is at most p, for p not below 0. */
        int floorRoot(int p) {
            int n = cell[p] >> 1;
            if (n <= 2) {
                return whole(smallRoot(value(p)));
            }
            long high = smallRoot((long) cell[p + n] * BASE + cell[p + n - 1]) + 1;
            int start = top;
            int first = whole((n & 1) == 0 ? high : high * 31623);
            int guess = slid(start, raised(first, (n - 2) / 2));
            for (int i = 0; i < 64; i++) {
                int quotient = divided(p, guess);
                top = next(quotient);
                int better = sum(guess, quotient, 1);
                halve(better);
                if (sizeOrder(better, guess) >= 0) {
                    break;
                }
                slid(start, better);
            }
            top = next(guess);
            return guess;
        }

        /** The same for a number that a long holds; the steps come down from above. */
        private static long smallRoot(long value) {
            if (value <= 0) {
                return 0;
            }
            long guess = 1L << ((65 - Long.numberOfLeadingZeros(value)) / 2);
            for (int i = 0; i < 64; i++) {
                long better = (guess + value / guess) / 2;
                if (better >= guess) {
                    break;
                }
                guess = better;
            }
            return guess;
        }

        /** The whole root of a number, or -1 if it has none. */
        int exactRoot(int p) {
            if (isBelow(p) || cell[p] != 0 && (SQUARES_BY_16 >> (cell[p + 1] & 15) & 1) == 0) {
                return -1;
            }
            int r = floorRoot(p);
            boolean same = areSame(times(r, r), p);
            top = same ? next(r) : r;
            return same ? r : -1;
        }

        /** Top and bottom of the fraction p / q, for q not 0. */
        int lowest(int p, int q) {
            int start = top;
            int by = divisor(p, q);
            int up = divided(p, by);
            top = next(up);
            int down = divided(q, by);
            top = next(down);
            if (isBelow(down)) {
                turn(up);
            }
            return slid(start, up);
        }

        int figures(int p) {
            int n = cell[p] >> 1;
            return n == 0 ? 1 : (n - 1) * LIMB_FIGURES + limbFigures(cell[p + n]);
        }

        /** Figure i from the highest of a number that has so many. */
        int figureAt(int p, int i) {
            int fromLowest = figures(p) - 1 - i;
            if (cell[p] == 0 || fromLowest < 0) {
                return 0;
            }
            int limb = cell[p + 1 + fromLowest / LIMB_FIGURES];
            return limb / TENS[fromLowest % LIMB_FIGURES] % 10;
        }

        /** Whether the number at p or the next one has more than so many figures. */
        boolean isWider(int p, int most) {
            return figures(p) > most || figures(next(p)) > most;
        }

        void keepResult(int pair) {
            int bottom = next(pair);
            if ((cell[pair] >> 1) < RESULT_ROOM && (cell[bottom] >> 1) < RESULT_ROOM) {
                System.arraycopy(cell, pair, cell, RESULT_TOP, 1 + (cell[pair] >> 1));
                System.arraycopy(cell, bottom, cell, RESULT_BOTTOM, 1 + (cell[bottom] >> 1));
            }
        }
    }

    /** The tower's roots, and the reckoning with vectors and ratios. */
    private static final class Field {
        final Numbers numbers;
        int height;
        /** Where the squares of R_1 to R_4 are, vectors of levels 0 to 3. */
        final int[] square = new int[MOST_ROOTS + 1];
        /** Product i of some R_k is this many times the product of the same r_k. */
        final int[] scale = new int[MOST_COORDINATES];

        Field(Numbers numbers) {
            this.numbers = numbers;
        }

        void reset() {
            height = 0;
            scale[0] = Numbers.ONE;
        }

        /** A new root, of a ratio of level k; the bottom times that root has a whole square. */
        void grow(int k, int ratio) {
            int wide = 1 << height;
            height++;
            square[height] = multiplied(1 << k, numbers.next(ratio), ratio);
            numbers.noughts(wide - (1 << k));
            for (int i = 0; i < wide; i++) {
                scale[wide + i] = numbers.times(scale[i], ratio);
            }
        }

        /** Coordinate i of the radicand of root k. */
        int radicandPart(int k, int i) {
            int start = numbers.top;
            int by = scale[1 << (k - 1)];
            int bottom = numbers.times(by, by);
            return numbers.slid(start, part(numbers.skip(square[k], i), bottom, i));
        }

        /** The coordinate that belongs to whole number i of a vector over a bottom. */
        int part(int number, int bottom, int i) {
            int start = numbers.top;
            int up = numbers.times(number, scale[i]);
            return numbers.slid(start, numbers.lowest(up, bottom));
        }

        /** One of the products of roots: the vector is 1 at an index, the bottom as is due. */
        int unitRatio(int k, int index) {
            int start = numbers.copied(scale[index], 1);
            numbers.noughts(index);
            numbers.whole(1);
            numbers.noughts((1 << k) - 1 - index);
            return start;
        }

        int vectorSum(int n, int u, int v, int factor) {
            int start = numbers.top;
            int p = u;
            int q = v;
            for (int i = 0; i < n; i++) {
                numbers.sum(p, q, factor);
                p = numbers.next(p);
                q = numbers.next(q);
            }
            return start;
        }

        /** A vector of n numbers, each times one number. */
        int multiplied(int n, int v, int number) {
            int start = numbers.top;
            int p = v;
            for (int i = 0; i < n; i++) {
                numbers.times(p, number);
                p = numbers.next(p);
            }
            return start;
        }

        int product(int k, int u, int v) {
            if (k <= 0) {
                return numbers.times(u, v);
            }
            int n = 1 << (k - 1);
            int uHigh = numbers.skip(u, n);
            int vHigh = numbers.skip(v, n);
            boolean uPlain = numbers.areNought(uHigh, n);
            boolean vPlain = numbers.areNought(vHigh, n);
            int start = numbers.top;
            if (uPlain || vPlain) {
                product(k - 1, u, v);
                if (uPlain && vPlain) {
                    numbers.noughts(n);
                } else {
                    product(k - 1, uPlain ? u : uHigh, uPlain ? vHigh : v);
                }
                return start;
            }
            int low = product(k - 1, u, v);
            int high = product(k - 1, product(k - 1, uHigh, vHigh), square[k]);
            int mixed = product(k - 1, u, vHigh);
            int other = product(k - 1, uHigh, v);
            int r = vectorSum(n, low, high, 1);
            vectorSum(n, mixed, other, 1);
            return numbers.slid(start, r);
        }

        /** x x - y y Q of the vector x + y R, one level lower. */
        int norm(int k, int v) {
            int n = 1 << (k - 1);
            int y = numbers.skip(v, n);
            int start = numbers.top;
            int low = product(k - 1, v, v);
            int high = product(k - 1, product(k - 1, y, y), square[k]);
            return numbers.slid(start, vectorSum(n, low, high, -1));
        }

        /** The ratio that is 1 / v, for a vector that is not 0. */
        int inverse(int k, int v) {
            int start = numbers.top;
            if (k <= 0) {
                numbers.copied(v, 1);
                numbers.whole(1);
                return start;
            }
            int n = 1 << (k - 1);
            int y = numbers.skip(v, n);
            if (numbers.areNought(y, n)) {
                inverse(k - 1, v);
                numbers.noughts(n);
                return start;
            }
            int bottom = inverse(k - 1, norm(k, v));
            int w = numbers.next(bottom);
            int r = numbers.copied(bottom, 1);
            product(k - 1, v, w);
            numbers.turn(product(k - 1, y, w));
            numbers.slid(start, r);
            return reduced(k, start);
        }

        /** Takes what all numbers of the ratio on top have in common out; its bottom is above 0. */
        int reduced(int k, int ratio) {
            int n = 1 << k;
            int start = numbers.top;
            int common = numbers.copied(ratio, 1);
            int p = numbers.next(ratio);
            for (int i = 0; i < n && !isOne(common); i++) {
                if (numbers.cell[p] != 0) {
                    numbers.slid(start, numbers.divisor(p, common));
                }
                p = numbers.next(p);
            }
            if (isOne(common)) {
                numbers.top = start;
                if (numbers.isBelow(ratio)) {
                    numbers.turn(ratio);
                }
                return ratio;
            }
            if (numbers.isBelow(ratio) != numbers.isBelow(common)) {
                numbers.turn(common);
            }
            int r = numbers.top;
            p = ratio;
            for (int i = 0; i <= n; i++) {
                numbers.top = numbers.next(numbers.divided(p, common));
                p = numbers.next(p);
            }
            return numbers.slid(ratio, r);
        }

        private boolean isOne(int p) {
            return numbers.cell[p] == 2 && numbers.cell[p + 1] == 1;
        }

        int ratioSum(int k, int p, int q, int factor) {
            int n = 1 << k;
            int first = multiplied(n, numbers.next(p), q);
            int second = multiplied(n, numbers.next(q), p);
            int r = numbers.times(p, q);
            vectorSum(n, first, second, factor);
            return r;
        }

        int ratioProduct(int k, int p, int q) {
            int r = numbers.times(p, q);
            product(k, numbers.next(p), numbers.next(q));
            return r;
        }

        /** For a divisor that is not 0. */
        int ratioQuotient(int k, int p, int q) {
            int n = 1 << k;
            int one = inverse(k, numbers.next(q));
            int v = product(k, numbers.next(p), numbers.next(one));
            int r = numbers.times(p, one);
            multiplied(n, v, q);
            return r;
        }

        /** A root of the number in a ratio, the bottom above 0: a ratio again, or -1. */
        int ratioRoot(int k, int ratio) {
            int start = numbers.top;
            int v = multiplied(1 << k, numbers.next(ratio), ratio);
            int found = vectorRoot(k, v);
            if (found < 0) {
                numbers.top = start;
                return -1;
            }
            int r = numbers.times(found, ratio);
            numbers.copied(numbers.next(found), 1 << k);
            return reduced(k, numbers.slid(start, r));
        }

        /** A root of the number that a vector is, as a ratio; -1 if the level has none. */
        private int vectorRoot(int k, int v) {
            int start = numbers.top;
            if (k <= 0) {
                numbers.whole(1);
                if (numbers.exactRoot(v) < 0) {
                    numbers.top = start;
                    return -1;
                }
                return start;
            }
            int n = 1 << (k - 1);
            int y = numbers.skip(v, n);
            int found = numbers.areNought(y, n) ? plainRoot(k, v) : mixedRoot(k, v, y);
            if (found < 0) {
                numbers.top = start;
            }
            return found;
        }

        /** Of a number of the lower level: a root there, or w R with w w Q that number. */
        private int plainRoot(int k, int v) {
            int n = 1 << (k - 1);
            int start = numbers.top;
            int lower = vectorRoot(k - 1, v);
            if (lower >= 0) {
                numbers.noughts(n);
                return lower;
            }
            int found = vectorRoot(k - 1, product(k - 1, v, square[k]));
            if (found < 0) {
                return -1;
            }
            int by = inverse(k - 1, square[k]);
            int r = numbers.times(found, by);
            numbers.noughts(n);
            product(k - 1, numbers.next(found), numbers.next(by));
            return reduced(k, numbers.slid(start, r));
        }

        /**
         * Of x + y R with y not 0: if u + w R is a root, the norm has the root u u - w w Q, up to
         * its sign, and half of x with that added is u u; then w is y / (2 u).
         */
        private int mixedRoot(int k, int v, int y) {
            int start = numbers.top;
            int found = vectorRoot(k - 1, norm(k, v));
            if (found < 0) {
                return -1;
            }
            int n = 1 << (k - 1);
            int raised = multiplied(n, v, found);
            int above = numbers.top;
            for (int factor = 1; factor >= -1; factor -= 2) {
                numbers.top = above;
                int half = numbers.sum(found, found, 1);
                vectorSum(n, raised, numbers.next(found), factor);
                int u = ratioRoot(k - 1, reduced(k - 1, half));
                if (u >= 0) {
                    int by = inverse(k - 1, numbers.next(u));
                    int twice = numbers.sum(by, by, 1);
                    int squared = numbers.times(u, u);
                    int high = product(k - 1, y, numbers.next(by));
                    int r = numbers.times(twice, u);
                    multiplied(n, numbers.next(u), twice);
                    multiplied(n, high, squared);
                    return reduced(k, numbers.slid(start, r));
                }
            }
            return -1;
        }
    }

    /** Bounds of the products of the R_k, as whole multiples of a small unit. */
    private static final class Spans {
        final Numbers numbers;
        final Field field;
        final int[] low = new int[MOST_COORDINATES];
        final int[] high = new int[MOST_COORDINATES];
        /** The unit is 1 over this power of the base. */
        int places;

        Spans(Numbers numbers, Field field) {
            this.numbers = numbers;
            this.field = field;
        }

        void begin(int newPlaces) {
            places = newPlaces;
            low[0] = numbers.raised(Numbers.ONE, places);
            high[0] = low[0];
        }

        /** Bounds for roots that come next, and for all products with them. */
        void widen(int first, int last) {
            for (int k = first; k <= last; k++) {
                int n = 1 << (k - 1);
                low[n] = rootBound(n, field.square[k], false);
                high[n] = rootBound(n, field.square[k], true);
                for (int i = 1; i < n; i++) {
                    low[n + i] = productBound(low[i], low[n], false);
                    high[n + i] = productBound(high[i], high[n], true);
                }
            }
        }

        private int rootBound(int n, int square, boolean upper) {
            int start = numbers.top;
            int inside = bound(n, square, upper);
            if (numbers.isBelow(inside)) {
                numbers.top = start;
                return numbers.whole(0);
            }
            int r = numbers.floorRoot(numbers.raised(inside, places));
            return numbers.slid(start, upper ? numbers.sum(r, Numbers.ONE, 1) : r);
        }

        private int productBound(int p, int q, boolean upper) {
            int r = numbers.times(p, q);
            numbers.lower(r, places);
            return upper ? numbers.slid(r, numbers.sum(r, Numbers.ONE, 1)) : r;
        }

        /** A bound, in units, of the number that a vector of n numbers is. */
        int bound(int n, int v, boolean upper) {
            int start = numbers.top;
            numbers.noughts(1);
            int p = v;
            for (int i = 0; i < n; i++) {
                if (numbers.cell[p] != 0) {
                    boolean far = numbers.isBelow(p) != upper;
                    int term = numbers.times(p, far ? high[i] : low[i]);
                    numbers.slid(start, numbers.sum(start, term, 1));
                }
                p = numbers.next(p);
            }
            return start;
        }

        /** The sign of what a vector of n numbers is, or 0 if the bounds leave it open. */
        int signWithin(int n, int v) {
            int start = numbers.top;
            int least = numbers.signAt(bound(n, v, false));
            int most = numbers.signAt(bound(n, v, true));
            numbers.top = start;
            return least > 0 ? 1 : most < 0 ? -1 : 0;
        }

        /** Of a bound of a ratio's number: the whole part of its multiple by a power of 10. */
        int floorBound(int n, int ratio, int ten, boolean upper) {
            int start = numbers.top;
            int up = numbers.times(bound(n, numbers.next(ratio), upper), ten);
            int down = numbers.raised(ratio, places);
            return numbers.slid(start, numbers.floor(up, down));
        }
    }

    /** The elements: each a reduced ratio of the least level to which its number belongs. */
    private static final class Elements {
        static final int FIRST_PLACES = 4;
        /** Far above what numbers of so few figures can need to be told from 0. */
        static final int MOST_PLACES = 1 << 15;
        static final int CUT_LIMIT = 1000000;

        final Numbers numbers;
        final Field field;
        /** Bounds that stay, good enough for most questions, and finer ones made for one call. */
        final Spans ready;
        final Spans fine;
        int count;
        final int[] place = new int[MOST_ELEMENTS];
        final int[] rank = new int[MOST_ELEMENTS];

        Elements(Numbers numbers, Field field) {
            this.numbers = numbers;
            this.field = field;
            ready = new Spans(numbers, field);
            fine = new Spans(numbers, field);
        }

        void reset() {
            count = 0;
            ready.begin(FIRST_PLACES);
        }

        boolean has(int a) {
            return a >= 0 && a < count;
        }

        boolean isFull() {
            return count >= MOST_ELEMENTS;
        }

        boolean isNought(int a) {
            return rank[a] == 0 && numbers.cell[numbers.next(place[a])] == 0;
        }

        /** An element's ratio, put on top with the coordinates of a higher level. */
        int widened(int k, int a) {
            int own = 1 << rank[a];
            int start = numbers.copied(place[a], 1 + own);
            numbers.noughts((1 << k) - own);
            return start;
        }

        /** Makes the ratio on top the next element, or answers WIDE. */
        int adopt(int k, int ratio) {
            int v = numbers.next(ratio);
            int least = k;
            while (least > 0 && isOfLowerLevel(least, v)) {
                least--;
            }
            numbers.top = numbers.skip(v, 1 << least);
            field.reduced(least, ratio);
            if (isWide(least, ratio)) {
                numbers.rest();
                return WIDE;
            }
            place[count] = numbers.slid(numbers.firm, ratio);
            rank[count] = least;
            numbers.settle();
            count++;
            return count - 1;
        }

        private boolean isOfLowerLevel(int k, int v) {
            int n = 1 << (k - 1);
            return numbers.areNought(numbers.skip(v, n), n);
        }

        private boolean isWide(int k, int ratio) {
            int start = numbers.top;
            int p = numbers.next(ratio);
            boolean wide = false;
            for (int i = 0; i < 1 << k && !wide; i++) {
                wide = numbers.isWider(field.part(p, ratio, i), COORDINATE_FIGURES);
                numbers.top = start;
                p = numbers.next(p);
            }
            return wide;
        }

        /** Joins the root of an element to the tower. */
        void join(int a) {
            numbers.top = numbers.firm;
            field.grow(rank[a], place[a]);
            ready.widen(field.height, field.height);
            numbers.settle();
        }

        /** Coordinate i of an element, as top and bottom. */
        int part(int a, int i) {
            if (i < 1 << rank[a]) {
                int p = numbers.skip(place[a], 1 + i);
                return field.part(p, place[a], i);
            }
            int start = numbers.whole(0);
            numbers.whole(1);
            return start;
        }

        /** The sign of the number that a vector is. */
        int signAt(int k, int v) {
            int n = 1 << k;
            if (numbers.areNought(v, n)) {
                return 0;
            }
            int start = numbers.top;
            int s = ready.signWithin(n, v);
            for (int places = 2 * FIRST_PLACES; s == 0 && places <= MOST_PLACES; places *= 2) {
                fine.begin(places);
                fine.widen(1, k);
                s = fine.signWithin(n, v);
                numbers.top = start;
            }
            return s;
        }

        /** The whole part of an element's multiple by 10^digits. */
        int floorOf(int a, int digits) {
            int n = 1 << rank[a];
            int ten = numbers.whole(Numbers.TENS[digits]);
            int start = numbers.top;
            int least = ready.floorBound(n, place[a], ten, false);
            boolean open = !numbers.areSame(least, ready.floorBound(n, place[a], ten, true));
            for (int places = 2 * FIRST_PLACES; open && places <= MOST_PLACES; places *= 2) {
                numbers.top = start;
                fine.begin(places);
                fine.widen(1, rank[a]);
                least = fine.floorBound(n, place[a], ten, false);
                open = !numbers.areSame(least, fine.floorBound(n, place[a], ten, true));
            }
            return least;
        }

        /** Whether an element with this whole part is not between -1000000 and 1000000. */
        boolean isBeyondCut(int a, int floor) {
            int limit = numbers.whole(CUT_LIMIT);
            int order = numbers.sizeOrder(floor, limit);
            boolean isWhole = rank[a] == 0 && numbers.areSame(place[a], Numbers.ONE);
            // One whose whole part is the lower limit is above that limit unless it is whole.
            return order > 0 || order == 0 && (!numbers.isBelow(floor) || isWhole);
        }

        /** Half of x + s n, where n n is x x - y y Q, of an element (x + y R1) / bottom; or -1. */
        int denested(int a, int s) {
            int bottom = place[a];
            int x = numbers.next(bottom);
            if (numbers.isBelow(x)) {
                return -1;
            }
            int n = rank[a] == 0 ? x : numbers.exactRoot(field.norm(1, x));
            if (n < 0) {
                return -1;
            }
            int up = numbers.sum(x, n, s);
            int down = numbers.sum(bottom, bottom, 1);
            return numbers.lowest(up, down);
        }
    }

    /** The least equation of the element that was asked for last. */
    private static final class Least {
        final Numbers numbers;
        final Field field;
        /** Whose equation stands on top of the firm part, if anything does. */
        int owner;
        int degree;
        /** Where the two halves of each power's vector are, within one step of the reckoning. */
        final int[] low = new int[MOST_COORDINATES + 1];
        final int[] high = new int[MOST_COORDINATES + 1];

        Least(Numbers numbers, Field field) {
            this.numbers = numbers;
            this.field = field;
        }

        /**
         * From t - v, for the vector v of the ratio: level by level down the equation is multiplied
         * by what comes of it when R_k changes its sign, unless R_k is not in it at all.
         */
        void prepare(int a, int k, int ratio) {
            if (owner == a && numbers.kept > numbers.firm) {
                return;
            }
            int start = numbers.firm;
            numbers.top = start;
            numbers.noughts(1 << k);
            field.vectorSum(1 << k, start, numbers.next(ratio), -1);
            numbers.slid(start, start + (1 << k));
            numbers.whole(1);
            numbers.noughts((1 << k) - 1);
            degree = 1;
            for (int j = k; j > 0; j--) {
                int r = hasRoot(j, start) ? doubled(j) : lowHalves(j);
                numbers.slid(start, r);
            }
            numbers.kept = numbers.top;
            owner = a;
        }

        /** Finds the halves of all vectors; whether one of the high ones is not 0. */
        private boolean hasRoot(int k, int start) {
            int n = 1 << (k - 1);
            int p = start;
            boolean found = false;
            for (int i = 0; i <= degree; i++) {
                low[i] = p;
                high[i] = numbers.skip(p, n);
                found = found || !numbers.areNought(high[i], n);
                p = numbers.skip(high[i], n);
            }
            return found;
        }

        private int lowHalves(int k) {
            int r = numbers.top;
            for (int i = 0; i <= degree; i++) {
                numbers.copied(low[i], 1 << (k - 1));
            }
            return r;
        }

        private int doubled(int k) {
            int r = numbers.top;
            for (int m = 0; m <= 2 * degree; m++) {
                int start = numbers.top;
                int first = squarePart(k - 1, low, m);
                int second = field.product(k - 1, squarePart(k - 1, high, m), field.square[k]);
                numbers.slid(start, field.vectorSum(1 << (k - 1), first, second, -1));
            }
            degree *= 2;
            return r;
        }

        /** What stands with the m-th power in the square of the sum with these vectors. */
        private int squarePart(int k, int[] row, int m) {
            int n = 1 << k;
            int start = numbers.top;
            numbers.noughts(n);
            for (int i = Math.max(0, m - degree); 2 * i < m; i++) {
                int term = field.product(k, row[i], row[m - i]);
                numbers.slid(start, field.vectorSum(n, start, term, 1));
            }
            numbers.slid(start, field.vectorSum(n, start, start, 1));
            if (m % 2 == 0) {
                int term = field.product(k, row[m / 2], row[m / 2]);
                numbers.slid(start, field.vectorSum(n, start, term, 1));
            }
            return start;
        }

        /** What stands with the i-th power: the vector's, over a power of the element's bottom. */
        int part(int i, int bottom) {
            int by = numbers.whole(1);
            for (int j = i; j < degree; j++) {
                numbers.slid(by, numbers.times(by, bottom));
            }
            return numbers.lowest(numbers.skip(numbers.firm, i), by);
        }
    }

    /** The latest text. */
    private static final class Script {
        /** Sixteen coordinates of two times 60 figures, with signs and the names of four roots. */
        static final int MOST_LETTERS = 16 * 140;

        final Numbers numbers;
        final byte[] letters = new byte[MOST_LETTERS];
        int length;

        Script(Numbers numbers) {
            this.numbers = numbers;
        }

        void begin() {
            length = 0;
        }

        int end() {
            if (length == 0) {
                add('0');
            }
            return length;
        }

        private void add(int letter) {
            if (length < MOST_LETTERS) {
                letters[length] = (byte) letter;
                length++;
            }
        }

        /** Coordinate i, given as top and bottom. */
        void write(int pair, int i) {
            int s = numbers.signAt(pair);
            if (s == 0) {
                return;
            }
            if (s < 0) {
                add('-');
            } else if (length > 0) {
                add('+');
            }
            writeFigures(pair);
            int bottom = numbers.next(pair);
            if (!numbers.areSame(bottom, Numbers.ONE)) {
                add('/');
                writeFigures(bottom);
            }
            for (int k = 1; k <= MOST_ROOTS; k++) {
                if ((i >> (k - 1) & 1) == 1) {
                    add('*');
                    add('r');
                    add('0' + k);
                }
            }
        }

        private void writeFigures(int p) {
            int n = numbers.figures(p);
            for (int i = 0; i < n; i++) {
                add('0' + numbers.figureAt(p, i));
            }
        }
    }
}
