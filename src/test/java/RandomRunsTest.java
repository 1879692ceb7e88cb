import java.math.BigInteger;
import java.util.ArrayList;
import java.util.List;
import java.util.Random;

/**
 * Random runs of calls beside a slow reckoning with fractions. What the program finds is proved: a
 * root by its square, a missing root by a prime that has the tower's roots but not this one, an
 * equation by putting the number in, its degree by powers that are independent modulo a prime, a
 * sign by norms. Arguments: how many runs, the first seed.
 */
public final class RandomRunsTest {
    static final int MOST_SHOWN = 30;
    static final BigInteger ONE = BigInteger.ONE;

    static int wrong = 0;
    static long checks = 0;

    static final class Frac {
        static final Frac NOUGHT = new Frac(BigInteger.ZERO, BigInteger.ONE);
        static final Frac UNIT = new Frac(BigInteger.ONE, BigInteger.ONE);
        final BigInteger up;
        final BigInteger down;

        Frac(BigInteger up, BigInteger down) {
            BigInteger g = up.gcd(down);
            if (down.signum() < 0) {
                g = g.negate();
            }
            this.up = up.divide(g);
            this.down = down.divide(g);
        }

        Frac plus(Frac o) {
            return new Frac(up.multiply(o.down).add(o.up.multiply(down)), down.multiply(o.down));
        }

        Frac minus(Frac o) {
            return plus(new Frac(o.up.negate(), o.down));
        }

        Frac times(Frac o) {
            return new Frac(up.multiply(o.up), down.multiply(o.down));
        }

        Frac inverse() {
            return new Frac(down, up);
        }

        int signum() {
            return up.signum();
        }

        boolean same(Frac o) {
            return up.equals(o.up) && down.equals(o.down);
        }

        boolean wide(int most) {
            return up.abs().toString().length() > most || down.toString().length() > most;
        }

        /** The residue modulo p, or -1 if p divides the bottom. */
        long mod(long p) {
            BigInteger q = BigInteger.valueOf(p);
            if (down.mod(q).signum() == 0) {
                return -1;
            }
            return up.mod(q).multiply(down.modInverse(q)).mod(q).longValue();
        }

        public String toString() {
            return up + "/" + down;
        }
    }

    /** Numbers of a tower as rows of 16 fractions. */
    static final class Tower {
        final List<Frac[]> radicands = new ArrayList<>();

        static Frac[] of(Frac f) {
            Frac[] r = new Frac[16];
            java.util.Arrays.fill(r, Frac.NOUGHT);
            r[0] = f;
            return r;
        }

        static Frac[] half(Frac[] a, int k, int which) {
            Frac[] r = of(Frac.NOUGHT);
            System.arraycopy(a, which << (k - 1), r, 0, 1 << (k - 1));
            return r;
        }

        static Frac[] joined(int k, Frac[] x, Frac[] y) {
            Frac[] r = of(Frac.NOUGHT);
            System.arraycopy(x, 0, r, 0, 1 << (k - 1));
            System.arraycopy(y, 0, r, 1 << (k - 1), 1 << (k - 1));
            return r;
        }

        static Frac[] sum(Frac[] a, Frac[] b, int factor) {
            Frac[] r = new Frac[16];
            for (int i = 0; i < 16; i++) {
                r[i] = factor > 0 ? a[i].plus(b[i]) : a[i].minus(b[i]);
            }
            return r;
        }

        static Frac[] scaled(Frac[] a, Frac f) {
            Frac[] r = new Frac[16];
            for (int i = 0; i < 16; i++) {
                r[i] = a[i].times(f);
            }
            return r;
        }

        static boolean isZero(Frac[] a) {
            for (Frac f : a) {
                if (f.signum() != 0) {
                    return false;
                }
            }
            return true;
        }

        static boolean same(Frac[] a, Frac[] b) {
            return isZero(sum(a, b, -1));
        }

        static int rank(Frac[] a) {
            int r = 0;
            for (int i = 0; i < 16; i++) {
                if (a[i].signum() != 0) {
                    r = i;
                }
            }
            return r == 0 ? 0 : 32 - Integer.numberOfLeadingZeros(r);
        }

        Frac[] product(int k, Frac[] a, Frac[] b) {
            if (isZero(a) || isZero(b)) {
                return of(Frac.NOUGHT);
            }
            if (k == 0) {
                return of(a[0].times(b[0]));
            }
            Frac[] x = half(a, k, 0), y = half(a, k, 1), u = half(b, k, 0), v = half(b, k, 1);
            Frac[] low = sum(product(k - 1, x, u),
                product(k - 1, product(k - 1, y, v), radicands.get(k - 1)), 1);
            return joined(k, low, sum(product(k - 1, x, v), product(k - 1, y, u), 1));
        }

        Frac[] product(Frac[] a, Frac[] b) {
            return product(radicands.size(), a, b);
        }

        Frac[] norm(int k, Frac[] a) {
            Frac[] x = half(a, k, 0), y = half(a, k, 1);
            return sum(product(k - 1, x, x),
                product(k - 1, product(k - 1, y, y), radicands.get(k - 1)), -1);
        }

        Frac[] inverse(int k, Frac[] a) {
            if (k == 0) {
                return of(a[0].inverse());
            }
            Frac[] n = inverse(k - 1, norm(k, a));
            Frac[] y = scaled(half(a, k, 1), new Frac(ONE.negate(), ONE));
            return joined(k, product(k - 1, half(a, k, 0), n), product(k - 1, y, n));
        }

        int signum(int k, Frac[] a) {
            if (k == 0) {
                return a[0].signum();
            }
            int s = signum(k - 1, half(a, k, 0)), t = signum(k - 1, half(a, k, 1));
            if (s == 0 || t == 0 || s == t) {
                return s == 0 ? t : s;
            }
            return s * signum(k - 1, norm(k, a));
        }

        int signum(Frac[] a) {
            return signum(rank(a), a);
        }

        static BigInteger wholeRoot(BigInteger n) {
            if (n.signum() < 0) {
                return null;
            }
            BigInteger r = n.sqrt();
            return r.multiply(r).equals(n) ? r : null;
        }

        Frac[] root(int k, Frac[] a) {
            if (k == 0) {
                BigInteger u = wholeRoot(a[0].up), d = wholeRoot(a[0].down);
                return u == null || d == null ? null : of(new Frac(u, d));
            }
            Frac[] x = half(a, k, 0), y = half(a, k, 1), q = radicands.get(k - 1);
            if (isZero(y)) {
                Frac[] r = root(k - 1, x);
                if (r != null) {
                    return r;
                }
                r = root(k - 1, product(k - 1, x, inverse(k - 1, q)));
                return r == null ? null : joined(k, of(Frac.NOUGHT), r);
            }
            Frac[] n = root(k - 1, norm(k, a));
            if (n == null) {
                return null;
            }
            Frac half = new Frac(ONE, BigInteger.TWO);
            for (int s = 1; s >= -1; s -= 2) {
                Frac[] u = root(k - 1, scaled(sum(x, n, s), half));
                if (u != null) {
                    return joined(k, u, product(k - 1, scaled(y, half), inverse(k - 1, u)));
                }
            }
            return null;
        }

        /** The values of the roots modulo p, or null if p does not have them all. */
        long[] rootsMod(long p, Random random) {
            long[] s = new long[radicands.size()];
            for (int k = 0; k < s.length; k++) {
                long q = valueMod(radicands.get(k), s, p);
                if (q <= 0) {
                    return null;
                }
                long r = power(q, (p + 1) / 4, p);
                if (r * r % p != q) {
                    return null;
                }
                s[k] = random.nextBoolean() ? r : p - r;
            }
            return s;
        }

        static long valueMod(Frac[] a, long[] s, long p) {
            long sum = 0;
            for (int i = 0; i < 16; i++) {
                if (a[i].signum() == 0) {
                    continue;
                }
                long t = a[i].mod(p);
                if (t < 0) {
                    return -1;
                }
                for (int k = 0; k < s.length; k++) {
                    if ((i >> k & 1) == 1) {
                        t = t * s[k] % p;
                    }
                }
                sum = (sum + t) % p;
            }
            return sum;
        }

        static long power(long b, long e, long p) {
            long r = 1, c = b % p;
            for (long f = e; f > 0; f >>= 1) {
                if ((f & 1) == 1) {
                    r = r * c % p;
                }
                c = c * c % p;
            }
            return r;
        }

        /** Whether some prime shows that a has no root in the tower. */
        boolean provedNoSquare(Frac[] a, Random random) {
            if (signum(a) < 0) {
                return true;
            }
            BigInteger p = BigInteger.valueOf(1000000000L + random.nextInt(900000000));
            for (int i = 0; i < 6000; i++) {
                p = p.nextProbablePrime();
                long q = p.longValue();
                if (q % 4 != 3) {
                    continue;
                }
                long[] s = rootsMod(q, random);
                if (s == null) {
                    continue;
                }
                long v = valueMod(a, s, q);
                if (v > 0 && power(v, (q - 1) / 2, q) != 1) {
                    return true;
                }
            }
            return false;
        }

        /** How many of 1, a, a a, .. are independent modulo a prime, at most 17 looked at. */
        int rankOfPowers(Frac[] a) {
            BigInteger p = BigInteger.ONE.shiftLeft(127).subtract(ONE);
            List<BigInteger[]> rows = new ArrayList<>();
            Frac[] power = of(Frac.UNIT);
            for (int d = 0; d < 17; d++) {
                BigInteger[] row = new BigInteger[16];
                for (int i = 0; i < 16; i++) {
                    row[i] = power[i].up.multiply(power[i].down.modInverse(p)).mod(p);
                }
                if (!reduceInto(rows, row, p)) {
                    return d;
                }
                power = product(power, a);
            }
            return 17;
        }

        static boolean reduceInto(List<BigInteger[]> rows, BigInteger[] row, BigInteger p) {
            for (BigInteger[] r : rows) {
                int lead = lead(r);
                BigInteger f = row[lead];
                for (int i = 0; i < 16; i++) {
                    row[i] = row[i].subtract(f.multiply(r[i])).mod(p);
                }
            }
            int lead = lead(row);
            if (lead == 16) {
                return false;
            }
            BigInteger inverse = row[lead].modInverse(p);
            for (int i = 0; i < 16; i++) {
                row[i] = row[i].multiply(inverse).mod(p);
            }
            rows.add(row);
            return true;
        }

        static int lead(BigInteger[] row) {
            for (int i = 0; i < 16; i++) {
                if (row[i].signum() != 0) {
                    return i;
                }
            }
            return 16;
        }
    }

    final long seed;
    final Random random;
    final RootTowers x = new RootTowers();
    final Tower tower = new Tower();
    final List<Frac[]> elements = new ArrayList<>();
    Frac result = Frac.NOUGHT;
    String text = "";
    final StringBuilder log = new StringBuilder();

    RandomRunsTest(long seed) {
        this.seed = seed;
        random = new Random(seed * 7919 + 17);
    }

    void due(String call, Object got, Object want) {
        checks++;
        if (!got.equals(want)) {
            wrong++;
            if (wrong <= MOST_SHOWN) {
                System.out.println("seed " + seed + ": " + call + " answered " + got + ", due is "
                    + want + "\n   after" + log);
            }
        }
    }

    static boolean isWide(Frac[] a) {
        for (Frac f : a) {
            if (f.wide(60)) {
                return true;
            }
        }
        return false;
    }

    Frac readResult() {
        StringBuilder up = new StringBuilder(), down = new StringBuilder();
        if (x.result(0) < 0) {
            up.append('-');
        }
        for (int i = 0; i < x.result(1); i++) {
            up.append(x.figure(0, i));
        }
        for (int i = 0; i < x.result(2); i++) {
            down.append(x.figure(1, i));
        }
        Frac f = new Frac(new BigInteger(up.toString()), new BigInteger(down.toString()));
        due("the result in lowest terms", f.down.toString(), down.toString());
        return f;
    }

    void dueResult(String call, int got, Frac want) {
        due(call, got, 1);
        result = want;
        due("result of " + call, readResult().toString(), want.toString());
    }

    Frac[] readElement(int a) {
        Frac[] r = Tower.of(Frac.NOUGHT);
        for (int i = 0; i < 1 << tower.radicands.size(); i++) {
            due("coordinate", x.coordinate(a, i), 1);
            result = readResult();
            r[i] = result;
        }
        return r;
    }

    void note(String call) {
        log.append(' ').append(call);
    }

    void dueElement(String call, int got, Frac[] want) {
        note(call);
        if (elements.size() >= 60) {
            due(call, got, RootTowers.NONE);
        } else if (isWide(want)) {
            due(call, got, RootTowers.WIDE);
        } else {
            due(call, got, elements.size());
            if (got == elements.size()) {
                elements.add(want);
                if (random.nextInt(4) == 0) {
                    checkElement(got);
                }
            }
        }
        due("told(1)", x.told(1), elements.size());
    }

    void checkElement(int a) {
        Frac[] got = readElement(a);
        for (int i = 0; i < 16; i++) {
            due("coordinate(" + a + ", " + i + ")", got[i].toString(),
                elements.get(a)[i].toString());
        }
        due("level(" + a + ")", x.level(a), Tower.rank(elements.get(a)));
    }

    int any() {
        int n = elements.size();
        int k = random.nextInt(3);
        return k == 0 ? random.nextInt(n) : n - 1 - random.nextInt(Math.min(n, k == 1 ? 3 : 8));
    }

    long part(int kind) {
        switch (kind) {
            case 0:
                return random.nextInt(21) - 10;
            case 1:
                return random.nextInt(2001) - 1000;
            case 2:
                return random.nextLong() >> random.nextInt(64);
            default:
                return random.nextInt(10) + 1;
        }
    }

    void fraction() {
        int kind = random.nextInt(10);
        kind = kind < 6 ? 3 : kind < 8 ? 0 : kind - 7;
        long up = part(kind), down = random.nextInt(3) == 0 ? part(kind) : 1;
        String call = "fraction(" + up + ", " + down + ")";
        int got = x.fraction(up, down);
        if (elements.size() >= 60) {
            due(call, got, RootTowers.NONE);
        } else if (down == 0) {
            due(call, got, RootTowers.ZERO);
        } else {
            dueElement(call, got, Tower.of(
                new Frac(BigInteger.valueOf(up), BigInteger.valueOf(down))));
        }
    }

    void apply() {
        apply(random.nextInt(4), any(), any());
    }

    void apply(int op, int a, int b) {
        Frac[] u = elements.get(a), v = elements.get(b);
        String call = "apply(" + op + ", " + a + ", " + b + ")";
        int got = x.apply(op, a, b);
        if (elements.size() < 60 && op == 3 && Tower.isZero(v)) {
            due(call, got, RootTowers.ZERO);
            return;
        }
        Frac[] want = u;
        if (op < 2) {
            want = Tower.sum(u, v, op == 0 ? 1 : -1);
        } else if (op == 2) {
            want = tower.product(u, v);
        } else if (!Tower.isZero(v)) {
            want = tower.product(u, tower.inverse(Tower.rank(v), v));
        }
        dueElement(call, got, want);
    }

    void plain() {
        int a = any();
        Frac[] u = elements.get(a);
        String call = "plain(" + a + ")";
        int got;
        try {
            got = x.plain(a);
        } catch (ArithmeticException e) {
            got = -100;
        }
        if (elements.size() < 60 && Tower.isZero(u)) {
            due(call, got, -100);
            return;
        }
        dueElement(call, got, Tower.isZero(u) ? u : tower.inverse(Tower.rank(u), u));
    }

    void root() {
        root(any());
    }

    /** The root of a square, of a square times an element, or of a new element. */
    void rootOfMade() {
        int a = any(), kind = random.nextInt(4);
        int before = elements.size();
        if (kind == 3) {
            apply(random.nextInt(2), any(), any());
        } else {
            apply(2, a, a);
        }
        if (kind == 0 && elements.size() > before) {
            apply(2, any(), elements.size() - 1);
        }
        root(elements.size() - 1);
    }

    void root(int a) {
        Frac[] u = elements.get(a);
        String call = "root(" + a + ")";
        int before = x.told(0);
        int got = x.root(a);
        if (elements.size() >= 60) {
            due(call, got, RootTowers.NONE);
            return;
        }
        if (tower.signum(u) < 0) {
            due(call, got, RootTowers.NEGATIVE);
            return;
        }
        Frac[] r = tower.root(tower.radicands.size(), u);
        if (r != null) {
            due("the root found here for " + call, Tower.same(tower.product(r, r), u), true);
            if (tower.signum(r) < 0) {
                r = Tower.scaled(r, new Frac(ONE.negate(), ONE));
            }
            due("told(0)", x.told(0), before);
            dueElement(call, got, r);
            return;
        }
        due("no root for " + call, tower.provedNoSquare(u, random), true);
        if (before == 4) {
            due(call, got, RootTowers.DEEP);
            due("told(0)", x.told(0), 4);
            return;
        }
        due("told(0)", x.told(0), before + 1);
        tower.radicands.add(u);
        Frac[] unit = Tower.of(Frac.NOUGHT);
        unit[1 << before] = Frac.UNIT;
        dueElement(call, got, unit);
        checkRadicand(before + 1);
    }

    void checkRadicand(int k) {
        for (int i = 0; i < 1 << (k - 1); i++) {
            dueResult("radicand(" + k + ", " + i + ")", x.radicand(k, i),
                tower.radicands.get(k - 1)[i]);
        }
        due("radicand behind", x.radicand(k, 1 << (k - 1)), RootTowers.NONE);
    }

    void isSquare() {
        int a = any();
        Frac[] u = elements.get(a);
        Frac[] r = tower.root(tower.radicands.size(), u);
        boolean found = r != null && Tower.same(tower.product(r, r), u);
        due("isSquare(" + a + ")", x.isSquare(a), found ? 1 : 0);
        if (!found) {
            due("no square " + a, tower.provedNoSquare(u, random), true);
        }
    }

    void signs() {
        int a = any(), b = any();
        due("sign(" + a + ")", x.sign(a), tower.signum(elements.get(a)));
        due("compare(" + a + ", " + b + ")", x.compare(a, b),
            tower.signum(Tower.sum(elements.get(a), elements.get(b), -1)));
    }

    void equation() {
        int a = any();
        Frac[] u = elements.get(a);
        int d = tower.rankOfPowers(u);
        due("degree(" + a + ")", x.degree(a), d);
        Frac[] coefficients = new Frac[d + 1];
        Frac before = result;
        for (int i = 0; i <= d; i++) {
            int got = x.equation(a, i);
            if (got == RootTowers.WIDE) {
                due("result after WIDE", readResult().toString(), before.toString());
            } else {
                due("equation(" + a + ", " + i + ")", got, 1);
                before = readResult();
                result = before;
                coefficients[i] = before;
                due("equation wide", before.wide(400), false);
            }
        }
        due("equation behind", x.equation(a, d + 1), RootTowers.NONE);
        due("equation before", x.equation(a, -1), RootTowers.NONE);
        checkEquation(a, u, coefficients);
    }

    /** Of those that were WIDE only their width is looked at. */
    void checkEquation(int a, Frac[] u, Frac[] coefficients) {
        int d = coefficients.length - 1;
        boolean whole = true;
        for (Frac f : coefficients) {
            whole = whole && f != null;
        }
        if (whole) {
            Frac[] value = Tower.of(Frac.NOUGHT);
            for (int i = d; i >= 0; i--) {
                value = Tower.sum(tower.product(value, u), Tower.of(coefficients[i]), 1);
            }
            due("equation of " + a + " put in", Tower.isZero(value), true);
            due("equation of " + a + " highest", coefficients[d].same(Frac.UNIT), true);
            return;
        }
        Frac[] full = solved(u, d);
        for (int i = 0; i <= d; i++) {
            if (coefficients[i] == null) {
                due("equation(" + a + ", " + i + ") wide", full[i].wide(400), true);
            } else {
                due("equation(" + a + ", " + i + ")", coefficients[i].toString(),
                    full[i].toString());
            }
        }
    }

    /** The least equation by elimination with fractions. */
    Frac[] solved(Frac[] u, int d) {
        Frac[][] m = new Frac[16][d + 1];
        Frac[] power = Tower.of(Frac.UNIT);
        for (int j = 0; j <= d; j++) {
            for (int i = 0; i < 16; i++) {
                m[i][j] = power[i];
            }
            power = tower.product(power, u);
        }
        for (int j = 0; j < d; j++) {
            int r = j;
            while (m[r][j].signum() == 0) {
                r++;
            }
            Frac[] swap = m[r];
            m[r] = m[j];
            m[j] = swap;
            Frac inverse = m[j][j].inverse();
            for (int c = j; c <= d; c++) {
                m[j][c] = m[j][c].times(inverse);
            }
            for (int i = 0; i < 16; i++) {
                Frac f = m[i][j];
                for (int c = j; i != j && f.signum() != 0 && c <= d; c++) {
                    m[i][c] = m[i][c].minus(f.times(m[j][c]));
                }
            }
        }
        Frac[] answer = new Frac[d + 1];
        for (int i = 0; i < d; i++) {
            answer[i] = Frac.NOUGHT.minus(m[i][d]);
        }
        answer[d] = Frac.UNIT;
        return answer;
    }

    void cut() {
        int a = any(), digits = random.nextInt(9) - 1;
        Frac[] u = elements.get(a);
        int got = x.cut(a, digits);
        String call = "cut(" + a + ", " + digits + ")";
        Frac million = new Frac(BigInteger.valueOf(1000000), ONE);
        boolean inside = tower.signum(Tower.sum(u, Tower.of(million), 1)) > 0
            && tower.signum(Tower.sum(u, Tower.of(million), -1)) < 0;
        if (digits < 0 || digits > 6 || !inside) {
            due(call, got, RootTowers.NONE);
            due("result after " + call, readResult().toString(), result.toString());
            return;
        }
        due(call, got, 1);
        result = readResult();
        Frac ten = new Frac(BigInteger.TEN.pow(digits), ONE);
        due(call + " whole", result.times(ten).down, ONE);
        Frac[] left = Tower.sum(u, Tower.of(result), -1);
        due(call + " at most", tower.signum(left) >= 0, true);
        Frac[] beyond = Tower.sum(left, Tower.of(ten.inverse()), -1);
        due(call + " greatest", tower.signum(beyond) < 0, true);
    }

    void denest() {
        int a = any();
        Frac[] u = elements.get(a);
        Frac big = null, small = null;
        if (Tower.rank(u) <= 1 && u[0].signum() >= 0) {
            Frac q = tower.radicands.isEmpty() ? Frac.NOUGHT : tower.radicands.get(0)[0];
            Frac n = u[0].times(u[0]).minus(u[1].times(u[1]).times(q));
            BigInteger s = Tower.wholeRoot(n.up), t = Tower.wholeRoot(n.down);
            if (s != null && t != null) {
                Frac half = new Frac(ONE, BigInteger.TWO);
                big = u[0].plus(new Frac(s, t)).times(half);
                small = u[0].minus(new Frac(s, t)).times(half);
            }
        }
        if (big == null) {
            due("denest(" + a + ", 0)", x.denest(a, 0), RootTowers.NONE);
            due("denest(" + a + ", 1)", x.denest(a, 1), RootTowers.NONE);
            due("result after denest", readResult().toString(), result.toString());
        } else {
            dueResult("denest(" + a + ", 0)", x.denest(a, 0), big);
            dueResult("denest(" + a + ", 1)", x.denest(a, 1), small);
        }
        due("denest(" + a + ", 2)", x.denest(a, 2), RootTowers.NONE);
    }

    void text() {
        int a = any();
        Frac[] u = elements.get(a);
        StringBuilder want = new StringBuilder();
        for (int i = 0; i < 16; i++) {
            if (u[i].signum() == 0) {
                continue;
            }
            want.append(u[i].signum() < 0 ? "-" : want.length() > 0 ? "+" : "");
            want.append(u[i].up.abs());
            if (!u[i].down.equals(ONE)) {
                want.append('/').append(u[i].down);
            }
            for (int k = 0; k < 4; k++) {
                if ((i >> k & 1) == 1) {
                    want.append("*r").append(k + 1);
                }
            }
        }
        text = want.length() == 0 ? "0" : want.toString();
        due("text(" + a + ")", x.text(a), text.length());
        checkText();
    }

    void checkText() {
        StringBuilder got = new StringBuilder();
        for (int i = 0; i < text.length(); i++) {
            try {
                got.append((char) x.letter(i));
            } catch (ArrayIndexOutOfBoundsException e) {
                got.append('?');
            }
        }
        due("letters", got.toString(), text);
        int thrown = 0;
        try {
            x.letter(text.length());
        } catch (ArrayIndexOutOfBoundsException e) {
            thrown = 1;
        }
        due("letter behind", thrown, 1);
    }

    void clear() {
        due("clear()", x.clear(), elements.size());
        elements.clear();
        tower.radicands.clear();
        result = Frac.NOUGHT;
        text = "";
        log.append("\n   clear()");
        due("told(0)", x.told(0), 0);
        due("told(1)", x.told(1), 0);
        due("result", readResult().toString(), "0/1");
        checkText();
    }

    void run(int calls) {
        fraction();
        boolean nested = seed % 3 == 0;
        for (int i = 0; i < calls; i++) {
            int pick = random.nextInt(100);
            if (elements.isEmpty() || pick < (nested ? 7 : 14)) {
                fraction();
            } else if (nested && pick < 20) {
                rootOfMade();
            } else if (pick < 44) {
                apply();
            } else if (pick < 49) {
                plain();
            } else if (pick < 64) {
                root();
            } else if (pick < 68) {
                isSquare();
            } else if (pick < 74) {
                signs();
            } else if (pick < 79) {
                equation();
            } else if (pick < 84) {
                cut();
            } else if (pick < 89) {
                denest();
            } else if (pick < 94) {
                text();
            } else if (pick < 99) {
                checkText();
            } else if (random.nextInt(4) == 0) {
                clear();
            }
        }
        for (int a = 0; a < elements.size(); a++) {
            checkElement(a);
        }
        for (int k = 1; k <= tower.radicands.size(); k++) {
            checkRadicand(k);
        }
    }

    public static void main(String[] args) {
        int runs = args.length > 0 ? Integer.parseInt(args[0]) : 60;
        long first = args.length > 1 ? Long.parseLong(args[1]) : 1;
        for (int i = 0; i < runs; i++) {
            RandomRunsTest test = new RandomRunsTest(first + i);
            test.run(40 + (int) ((first + i) % 5) * 20);
        }
        System.out.println(checks + " checks, " + wrong + " wrong");
        if (wrong != 0) {
            System.exit(1);
        }
    }
}
