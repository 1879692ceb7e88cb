/** Each promise of the document: ordinary calls, the edges that it names, and wrong inputs. */
public final class PromisesTest {
    static final int NONE = RootTowers.NONE;
    static final int ZERO = RootTowers.ZERO;
    static final int NEGATIVE = RootTowers.NEGATIVE;
    static final int DEEP = RootTowers.DEEP;
    static final int WIDE = RootTowers.WIDE;
    static final int THROWN = -1000;
    static final long E18 = 1000000000000000000L;
    static final int[] WRONG = {-1, -2, 60, 61, 1000, Integer.MIN_VALUE, Integer.MAX_VALUE};

    static int wrong = 0;
    static int promise = 0;

    static void due(String what, Object got, Object want) {
        if (!got.equals(want)) {
            wrong++;
            System.out.println("promise " + promise + ": " + what + " answered " + got + ", due is "
                + want);
        }
    }

    /** THE RESULT as it can be read: top, or top/bottom. */
    static String result(RootTowers x) {
        StringBuilder s = new StringBuilder(x.result(0) < 0 ? "-" : "");
        for (int i = 0; i < x.result(1); i++) {
            s.append(x.figure(0, i));
        }
        StringBuilder t = new StringBuilder();
        for (int i = 0; i < x.result(2); i++) {
            t.append(x.figure(1, i));
        }
        return t.toString().equals("1") ? s.toString() : s + "/" + t;
    }

    static void dueResult(RootTowers x, String what, int got, String want) {
        due(what, got, 1);
        due("the result of " + what, result(x), want);
    }

    static int letter(RootTowers x, int i) {
        try {
            return x.letter(i);
        } catch (ArrayIndexOutOfBoundsException e) {
            return THROWN;
        }
    }

    static int plain(RootTowers x, int a) {
        try {
            return x.plain(a);
        } catch (ArithmeticException e) {
            return THROWN;
        }
    }

    static String letters(RootTowers x) {
        StringBuilder s = new StringBuilder();
        for (int i = 0; letter(x, i) != THROWN; i++) {
            s.append((char) letter(x, i));
        }
        return s.toString();
    }

    static String text(RootTowers x, int a) {
        int n = x.text(a);
        String s = letters(x);
        due("letters of text(" + a + ")", s.length(), n);
        return s;
    }

    static String state(RootTowers x) {
        return x.told(0) + " roots, " + x.told(1) + " elements, result " + result(x) + ", text "
            + letters(x);
    }

    /** Elements 0 to 3: 2, its root r1, 3, its root r2. */
    static RootTowers twoRoots() {
        RootTowers x = new RootTowers();
        x.fraction(2, 1);
        x.root(0);
        x.fraction(3, 1);
        x.root(2);
        return x;
    }

    /** Elements 0 to 7: 2, r1, 3, r2, 5, r3, 7, r4. */
    static RootTowers fourRoots() {
        RootTowers x = twoRoots();
        x.fraction(5, 1);
        x.root(4);
        x.fraction(7, 1);
        x.root(6);
        return x;
    }

    static RootTowers full() {
        RootTowers x = twoRoots();
        for (int i = 4; i < 60; i++) {
            x.fraction(i == 59 ? 0 : i, 1);
        }
        return x;
    }

    /** The element 10^n, for n to 59. */
    static int ten(RootTowers x, int n) {
        int e = -1;
        for (int left = n; left > 0 || e < 0; ) {
            int part = Math.min(left, 18);
            long p = 1;
            for (int i = 0; i < part; i++) {
                p *= 10;
            }
            int f = x.fraction(p, 1);
            e = e < 0 ? f : x.apply(2, e, f);
            left -= part;
        }
        return e;
    }

    static void promise1() {
        RootTowers x = new RootTowers();
        due("state", state(x), "0 roots, 0 elements, result 0, text ");
        due("told(0)", x.told(0), 0);
        due("told(1)", x.told(1), 0);
        due("result(0)", x.result(0), 0);
        due("result(1)", x.result(1), 1);
        due("result(2)", x.result(2), 1);
        due("figure(0, 0)", x.figure(0, 0), 0);
        due("figure(1, 0)", x.figure(1, 0), 1);
        due("sign(0)", x.sign(0), -2);
        due("level(0)", x.level(0), NONE);
        due("radicand(1, 0)", x.radicand(1, 0), NONE);
        due("letter(0)", letter(x, 0), THROWN);
        due("first element", x.fraction(1, 1), 0);
        RootTowers y = new RootTowers();
        due("another object", y.told(1), 0);
    }

    static void promise2() {
        RootTowers x = new RootTowers();
        long[][] parts = {
            {1, 1}, {6, 4}, {-6, 4}, {6, -4}, {-6, -4}, {0, 5}, {0, -5}, {Long.MIN_VALUE, 1},
            {1, Long.MIN_VALUE}, {Long.MIN_VALUE, Long.MIN_VALUE}, {Long.MIN_VALUE, -1},
            {Long.MAX_VALUE, Long.MIN_VALUE}, {Long.MAX_VALUE, Long.MAX_VALUE},
            {1000000000, 999999999}, {E18, 1000000000}, {0, Long.MIN_VALUE},
        };
        String[] due = {
            "1", "3/2", "-3/2", "-3/2", "3/2", "0", "0", "-9223372036854775808",
            "-1/9223372036854775808", "1", "9223372036854775808",
            "-9223372036854775807/9223372036854775808", "1",
            "1000000000/999999999", "1000000000", "0",
        };
        for (int i = 0; i < parts.length; i++) {
            due("fraction " + i, x.fraction(parts[i][0], parts[i][1]), i);
            due("text of fraction " + i, text(x, i), due[i]);
        }
        due("fraction(1, 0)", x.fraction(1, 0), ZERO);
        due("fraction(0, 0)", x.fraction(0, 0), ZERO);
        due("told(1)", x.told(1), parts.length);
        RootTowers y = new RootTowers();
        for (int i = 0; i < 60; i++) {
            due("fraction " + i, y.fraction(i, 7), i);
        }
        due("fraction 60", y.fraction(1, 1), NONE);
        due("fraction 60 over 0", y.fraction(1, 0), NONE);
        due("told(1)", y.told(1), 60);
        due("text(59)", text(y, 59), "59/7");
    }

    static void promise3() {
        RootTowers x = twoRoots();
        due("r1 + r2", x.apply(0, 1, 3), 4);
        due("text", text(x, 4), "1*r1+1*r2");
        due("r1 - r2", x.apply(1, 1, 3), 5);
        due("text", text(x, 5), "1*r1-1*r2");
        due("product", x.apply(2, 4, 5), 6);
        due("text", text(x, 6), "-1");
        due("quotient", x.apply(3, 4, 5), 7);
        due("text", text(x, 7), "-5-2*r1*r2");
        due("2 / r1", x.apply(3, 0, 1), 8);
        due("text", text(x, 8), "1*r1");
        due("square", x.apply(2, 4, 4), 9);
        due("text", text(x, 9), "5+2*r1*r2");
        due("nought", x.apply(1, 9, 9), 10);
        due("level of nought", x.level(10), 0);
        due("0 / r1", x.apply(3, 10, 1), 11);
        due("text", text(x, 11), "0");
        due("r1 + 0", text(x, x.apply(0, 1, 10)), "1*r1");
        due("r1 - 0", text(x, x.apply(1, 1, 10)), "1*r1");
        due("0 - r1", text(x, x.apply(1, 10, 1)), "-1*r1");
        due("r1 times 0", text(x, x.apply(2, 1, 10)), "0");
        String before = state(x);
        due("1 / 0", x.apply(3, 0, 10), ZERO);
        due("0 / 0", x.apply(3, 10, 10), ZERO);
        for (int w : WRONG) {
            due("apply(0, " + w + ", 0)", x.apply(0, w, 0), NONE);
            due("apply(0, 0, " + w + ")", x.apply(0, 0, w), NONE);
            due("apply(3, " + w + ", 10)", x.apply(3, w, 10), NONE);
            due("apply(" + w + ", 0, 0)", x.apply(w, 0, 0), NONE);
            due("apply(" + w + ", 0, 10)", x.apply(w, 0, 10), NONE);
        }
        due("apply(4, 0, 0)", x.apply(4, 0, 0), NONE);
        due("apply behind", x.apply(0, x.told(1), 0), NONE);
        due("state", state(x), before);
        RootTowers f = full();
        due("apply with 60", f.apply(0, 0, 0), NONE);
        due("a / 0 with 60", f.apply(3, 0, 59), NONE);
        wideApply();
    }

    static void wideApply() {
        RootTowers x = twoRoots();
        int t = ten(x, 59);
        int ten = x.fraction(10, 1);
        due("text of 10^59", x.text(t), 60);
        String before = state(x);
        due("10^60", x.apply(2, t, ten), WIDE);
        due("state", state(x), before);
        int tr = x.apply(2, t, 1);
        due("10^59 r1", text(x, tr).length(), 63);
        due("10^60 r1", x.apply(2, tr, ten), WIDE);
        int u = plain(x, t);
        due("10^-59", text(x, u).length(), 62);
        due("10^-60", x.apply(3, u, ten), WIDE);
        due("10^-59 / 7", x.apply(3, u, x.fraction(7, 1)) >= 0, true);
        due("10^-59 / 11", x.apply(3, u, x.fraction(11, 1)), WIDE);
        int nine = x.fraction(9, 1);
        int nines = x.apply(2, t, nine);
        due("9 10^59", nines >= 0, true);
        due("9 10^59 + 10^59", x.apply(0, nines, t), WIDE);
        due("9 10^59 - (-10^59)", x.apply(1, nines, x.apply(1, x.fraction(0, 1), t)), WIDE);
        due("9 10^59 - 10^59", x.apply(1, nines, t) >= 0, true);
        int v = x.apply(0, x.apply(0, tr, 3), ten);
        due("mixed", text(x, v).endsWith("*r1+1*r2"), true);
        due("mixed square", x.apply(2, v, v), WIDE);
        due("the inner reckoning is not asked", x.apply(3, v, v), x.told(1) - 1);
        due("text", text(x, x.told(1) - 1), "1");
    }

    static void promise4() {
        RootTowers x = twoRoots();
        due("1 / 2", plain(x, 0), 4);
        due("text", text(x, 4), "1/2");
        due("1 / r1", plain(x, 1), 5);
        due("text", text(x, 5), "1/2*r1");
        int s = x.apply(0, x.apply(0, 1, 3), x.fraction(1, 1));
        int i = plain(x, s);
        due("text", text(x, i), "1/2+1/4*r1-1/4*r1*r2");
        due("back", text(x, plain(x, i)), "1+1*r1+1*r2");
        due("negative", text(x, plain(x, x.fraction(-7, 3))), "-3/7");
        int nought = x.fraction(0, 1);
        String before = state(x);
        due("1 / 0", plain(x, nought), THROWN);
        due("1 / 0 again", plain(x, nought), THROWN);
        due("state", state(x), before);
        for (int w : WRONG) {
            due("plain(" + w + ")", plain(x, w), NONE);
        }
        due("plain behind", plain(x, x.told(1)), NONE);
        int t = ten(x, 40);
        int wide = x.apply(0, t, 1);
        before = state(x);
        due("1 / (10^40 + r1)", plain(x, wide), WIDE);
        due("state", state(x), before);
        RootTowers f = full();
        due("plain with 60", plain(f, 0), NONE);
        due("1 / 0 with 60", plain(f, 59), NONE);
    }

    static void promise5() {
        RootTowers x = new RootTowers();
        x.fraction(9, 4);
        due("root of 9/4", x.root(0), 1);
        due("text", text(x, 1), "3/2");
        due("told(0)", x.told(0), 0);
        x.fraction(0, 1);
        due("root of 0", x.root(2), 3);
        due("text", text(x, 3), "0");
        x.fraction(12, 1);
        due("root of 12", x.root(4), 5);
        due("text", text(x, 5), "1*r1");
        due("told(0)", x.told(0), 1);
        x.fraction(1, 3);
        due("root of 1/3", x.root(6), 7);
        due("text", text(x, 7), "1/6*r1");
        due("told(0)", x.told(0), 1);
        x.fraction(-1, 1);
        String before = state(x);
        due("root of -1", x.root(8), NEGATIVE);
        due("state", state(x), before);
        int lower = x.apply(1, 5, x.fraction(7, 2));
        due("root of r1 - 7/2", x.root(lower), NEGATIVE);
        due("root of 4 + r1", text(x, x.root(x.apply(0, x.fraction(4, 1), 5))), "1+1/2*r1");
        due("root of 4 - r1", text(x, x.root(x.apply(1, x.fraction(4, 1), 5))), "-1+1/2*r1");
        due("told(0)", x.told(0), 1);
        int twice = x.apply(0, 5, 5);
        int found = x.root(x.apply(0, x.fraction(8, 1), twice));
        due("root of 8 + 2 r1 is new", text(x, found), "1*r2");
        due("told(0)", x.told(0), 2);
        int other = x.root(x.apply(1, x.fraction(8, 1), twice));
        due("root of 8 - 2 r1 is there then", text(x, other), "2*r2-1/2*r1*r2");
        due("told(0)", x.told(0), 2);
        due("it is above 0", x.sign(other), 1);
        for (int w : WRONG) {
            due("root(" + w + ")", x.root(w), NONE);
        }
        due("root behind", x.root(x.told(1)), NONE);
        RootTowers f = full();
        due("root with 60", f.root(0), NONE);
        due("told(0)", f.told(0), 2);
        nestedRoots();
        deepRoots();
        wideRoot();
    }

    static void nestedRoots() {
        RootTowers x = twoRoots();
        int five = x.apply(0, x.fraction(5, 1), x.apply(2, x.fraction(2, 1), x.apply(2, 1, 3)));
        due("root of 5 + 2 r1 r2", text(x, x.root(five)), "1*r1+1*r2");
        int six = x.apply(1, x.fraction(5, 1), x.apply(2, x.fraction(2, 1), x.apply(2, 1, 3)));
        due("root of 5 - 2 r1 r2", text(x, x.root(six)), "-1*r1+1*r2");
        due("told(0)", x.told(0), 2);
        RootTowers y = new RootTowers();
        y.fraction(2, 1);
        for (int k = 0; k < 4; k++) {
            due("root " + k, y.root(k), k + 1);
            due("level", y.level(k + 1), k + 1);
        }
        due("text", text(y, 4), "1*r4");
        due("fifth root", y.root(4), DEEP);
        due("degree", y.degree(4), 16);
        due("16-th power", text(y, power(y, 4, 16)), "2");
        due("root of r1 r1 r1 r1", text(y, y.root(power(y, 1, 4))), "2");
        due("root of its third power", text(y, y.root(power(y, 3, 3))), "1*r3*r4");
    }

    static int power(RootTowers x, int a, int n) {
        int e = x.fraction(1, 1);
        for (int i = 0; i < n; i++) {
            e = x.apply(2, e, a);
        }
        return e;
    }

    static void deepRoots() {
        RootTowers x = fourRoots();
        due("told(0)", x.told(0), 4);
        int eleven = x.fraction(11, 1);
        String before = state(x);
        due("root of 11", x.root(eleven), DEEP);
        due("state", state(x), before);
        int prod = x.fraction(210, 1);
        due("root of 210", text(x, x.root(prod)), "1*r1*r2*r3*r4");
        int sum = x.apply(0, x.apply(0, 1, 3), x.apply(0, 5, 7));
        int square = x.apply(2, sum, sum);
        due("root of a square", text(x, x.root(square)), "1*r1+1*r2+1*r3+1*r4");
        int turned = x.apply(1, x.fraction(0, 1), sum);
        due("root of a negative one's square", text(x, x.root(x.apply(2, turned, turned))),
            "1*r1+1*r2+1*r3+1*r4");
        due("root of the sum", x.root(sum), DEEP);
        due("NEGATIVE before DEEP", x.root(turned), NEGATIVE);
    }

    static void wideRoot() {
        RootTowers x = new RootTowers();
        int t = ten(x, 58);
        due("r1", x.root(x.apply(3, x.fraction(2, 1), t)) >= 0, true);
        due("r2", x.root(x.apply(3, x.fraction(3, 1), t)) >= 0, true);
        due("told(0)", x.told(0), 2);
        int a = x.apply(2, x.fraction(6, 1), t);
        String before = state(x);
        due("root of 6 10^58", x.root(a), WIDE);
        due("state", state(x), before);
        due("it is a square still", x.isSquare(a), 1);
    }

    static void promise6() {
        RootTowers x = twoRoots();
        due("isSquare(2)", x.isSquare(0), 1);
        due("isSquare(r1)", x.isSquare(1), 0);
        long[] whole = {0, 1, 4, 5, 6, 7, 8, 12, 18, 24, -1, -4, -2, 49, 50, E18};
        int[] due = {1, 1, 1, 0, 1, 0, 1, 1, 1, 1, 0, 0, 0, 1, 1, 1};
        for (int i = 0; i < whole.length; i++) {
            due("isSquare of " + whole[i], x.isSquare(x.fraction(whole[i], 1)), due[i]);
        }
        int two = x.apply(2, x.fraction(2, 1), 1);
        int three = x.apply(0, x.fraction(3, 1), two);
        due("isSquare(3 + 2 r1)", x.isSquare(three), 1);
        due("isSquare(9 + 6 r1)", x.isSquare(x.apply(2, 2, three)), 1);
        due("isSquare(15 + 10 r1)", x.isSquare(x.apply(2, x.fraction(5, 1), three)), 0);
        due("isSquare(3 - 2 r1)", x.isSquare(x.apply(1, x.fraction(3, 1), two)), 1);
        due("isSquare(4 + 2 r1)", x.isSquare(x.apply(0, x.fraction(4, 1), two)), 0);
        due("isSquare(2 r1 - 3)", x.isSquare(x.apply(1, two, x.fraction(3, 1))), 0);
        due("state", x.told(0), 2);
        for (int w : WRONG) {
            due("isSquare(" + w + ")", x.isSquare(w), NONE);
        }
        due("isSquare behind", x.isSquare(x.told(1)), NONE);
        due("isSquare with 60", full().isSquare(0), 1);
    }

    static void promise7() {
        RootTowers x = twoRoots();
        due("sign(2)", x.sign(0), 1);
        due("sign(r1)", x.sign(1), 1);
        due("sign(r1 - r2)", x.sign(x.apply(1, 1, 3)), -1);
        due("sign(0)", x.sign(x.fraction(0, 1)), 0);
        due("sign(-1/3)", x.sign(x.fraction(-1, 3)), -1);
        due("sign(r1 - r1)", x.sign(x.apply(1, 1, 1)), 0);
        int small = x.apply(1, 1, x.fraction(1, 1));
        int p = small;
        for (int i = 0; i < 7; i++) {
            p = x.apply(2, p, p);
        }
        due("sign((r1 - 1)^128)", x.sign(p), 1);
        due("sign(-(r1 - 1)^128)", x.sign(x.apply(1, x.fraction(0, 1), p)), -1);
        due("sign((r1 - 1)^128 - (r1 - 1)^128)", x.sign(x.apply(1, p, p)), 0);
        for (int w : WRONG) {
            due("sign(" + w + ")", x.sign(w), -2);
        }
        due("sign behind", x.sign(x.told(1)), -2);
        RootTowers y = fourRoots();
        int e = y.apply(1, y.apply(0, 1, 7), y.apply(0, 3, 5));
        due("sign(r1 + r4 - r2 - r3)", y.sign(e), 1);
        int s = e;
        for (int i = 0; i < 5; i++) {
            s = y.apply(2, s, s);
        }
        due("a high power", y.sign(s), 1);
        due("a high power, turned", y.sign(y.apply(1, y.fraction(0, 1), s)), -1);
    }

    static void promise8() {
        RootTowers x = twoRoots();
        due("compare(2, r1)", x.compare(0, 1), 1);
        due("compare(r1, 2)", x.compare(1, 0), -1);
        due("compare(r1, r1)", x.compare(1, 1), 0);
        due("compare(r1, r2)", x.compare(1, 3), -1);
        int near = x.fraction(6369051672525773L, 4503599627370497L);
        due("near", x.compare(1, near), 1);
        due("near", x.compare(near, 1), -1);
        int sum = x.apply(0, 1, 3);
        int square = x.apply(2, sum, sum);
        int six = x.fraction(24, 1);
        int root = x.root(six);
        due("equal by other ways", x.compare(square, x.apply(0, x.fraction(5, 1), root)), 0);
        due("fractions", x.compare(x.fraction(-1, 3), x.fraction(-1, 4)), -1);
        due("told(1)", x.told(1), 13);
        for (int w : WRONG) {
            due("compare(" + w + ", 0)", x.compare(w, 0), -2);
            due("compare(0, " + w + ")", x.compare(0, w), -2);
        }
        due("compare behind", x.compare(0, x.told(1)), -2);
        RootTowers y = new RootTowers();
        int t = ten(y, 59);
        due("wide ones", y.compare(t, y.apply(1, t, y.fraction(1, 1))), 1);
        due("with 60", full().compare(1, 3), -1);
    }

    static void promise9() {
        RootTowers x = fourRoots();
        int[] due = {0, 1, 0, 2, 0, 3, 0, 4};
        for (int i = 0; i < due.length; i++) {
            due("level(" + i + ")", x.level(i), due[i]);
        }
        due("level(r1 r4)", x.level(x.apply(2, 1, 7)), 4);
        due("level(r1 + 1)", x.level(x.apply(0, 1, x.fraction(1, 1))), 1);
        due("level((r2 + r1) - r2)", x.level(x.apply(1, x.apply(0, 3, 1), 3)), 1);
        due("level(r4 r4)", x.level(x.apply(2, 7, 7)), 0);
        due("level(r4 - r4)", x.level(x.apply(1, 7, 7)), 0);
        for (int w : WRONG) {
            due("level(" + w + ")", x.level(w), NONE);
        }
        due("level behind", x.level(x.told(1)), NONE);
    }

    static void promise10() {
        RootTowers x = twoRoots();
        int a = x.apply(3, x.apply(1, x.apply(2, 1, 3), x.fraction(7, 1)), x.fraction(-6, 1));
        dueResult(x, "coordinate 0", x.coordinate(a, 0), "7/6");
        dueResult(x, "coordinate 1", x.coordinate(a, 1), "0");
        dueResult(x, "coordinate 2", x.coordinate(a, 2), "0");
        dueResult(x, "coordinate 3", x.coordinate(a, 3), "-1/6");
        for (int i : new int[] {4, 5, 16, -1, Integer.MIN_VALUE, Integer.MAX_VALUE}) {
            due("coordinate(a, " + i + ")", x.coordinate(a, i), NONE);
        }
        due("the result stays", result(x), "-1/6");
        for (int w : WRONG) {
            due("coordinate(" + w + ", 0)", x.coordinate(w, 0), NONE);
        }
        due("coordinate behind", x.coordinate(x.told(1), 0), NONE);
        dueResult(x, "coordinate of a fraction", x.coordinate(0, 3), "0");
        x.fraction(5, 1);
        x.root(x.told(1) - 1);
        dueResult(x, "new coordinate", x.coordinate(a, 4), "0");
        dueResult(x, "old coordinate", x.coordinate(a, 3), "-1/6");
        dueResult(x, "last coordinate", x.coordinate(a, 7), "0");
        due("coordinate(a, 8)", x.coordinate(a, 8), NONE);
        RootTowers y = new RootTowers();
        y.fraction(-3, 4);
        dueResult(y, "coordinate(0, 0)", y.coordinate(0, 0), "-3/4");
        due("coordinate(0, 1)", y.coordinate(0, 1), NONE);
        fractionRadicand();
    }

    static void fractionRadicand() {
        RootTowers x = new RootTowers();
        x.fraction(2, 3);
        int r = x.root(0);
        int a = x.apply(0, x.apply(2, r, x.fraction(5, 7)), x.fraction(1, 2));
        dueResult(x, "coordinate(a, 0)", x.coordinate(a, 0), "1/2");
        dueResult(x, "coordinate(a, 1)", x.coordinate(a, 1), "5/7");
        int q = x.root(a);
        int b = x.apply(2, q, x.apply(2, r, x.fraction(3, 11)));
        dueResult(x, "coordinate(b, 3)", x.coordinate(b, 3), "3/11");
        dueResult(x, "coordinate(b, 2)", x.coordinate(b, 2), "0");
        int c = x.apply(2, b, q);
        dueResult(x, "coordinate(c, 0)", x.coordinate(c, 0), "10/77");
        dueResult(x, "coordinate(c, 1)", x.coordinate(c, 1), "3/22");
    }

    static void promise11() {
        RootTowers x = new RootTowers();
        due("radicand(1, 0)", x.radicand(1, 0), NONE);
        x.fraction(50, 12);
        x.root(0);
        int a = x.apply(0, x.apply(2, 1, x.fraction(1, 3)), x.fraction(1, 10));
        x.root(a);
        dueResult(x, "radicand(1, 0)", x.radicand(1, 0), "25/6");
        dueResult(x, "radicand(2, 0)", x.radicand(2, 0), "1/10");
        dueResult(x, "radicand(2, 1)", x.radicand(2, 1), "1/3");
        int[][] none = {
            {1, 1}, {1, -1}, {2, 2}, {2, 3}, {2, -1}, {3, 0}, {0, 0}, {-1, 0}, {4, 0}, {5, 0},
            {Integer.MIN_VALUE, 0}, {Integer.MAX_VALUE, 0}, {33, 0}, {1, Integer.MAX_VALUE},
            {2, Integer.MIN_VALUE}, {32, 0},
        };
        for (int[] n : none) {
            due("radicand(" + n[0] + ", " + n[1] + ")", x.radicand(n[0], n[1]), NONE);
        }
        due("the result stays", result(x), "1/3");
        RootTowers y = fourRoots();
        dueResult(y, "radicand(4, 0)", y.radicand(4, 0), "7");
        for (int i = 1; i < 8; i++) {
            dueResult(y, "radicand(4, " + i + ")", y.radicand(4, i), "0");
        }
        due("radicand(4, 8)", y.radicand(4, 8), NONE);
        due("radicand(5, 0)", y.radicand(5, 0), NONE);
    }

    static void promise12() {
        RootTowers x = fourRoots();
        int[] due = {1, 2, 1, 2, 1, 2, 1, 2};
        for (int i = 0; i < due.length; i++) {
            due("degree(" + i + ")", x.degree(i), due[i]);
        }
        int a = x.apply(0, 1, 3);
        due("degree(r1 + r2)", x.degree(a), 4);
        int b = x.apply(0, a, 5);
        due("degree(r1 + r2 + r3)", x.degree(b), 8);
        due("degree(r1 + .. + r4)", x.degree(x.apply(0, b, 7)), 16);
        due("degree(r1 r4)", x.degree(x.apply(2, 1, 7)), 2);
        due("degree(0)", x.degree(x.fraction(0, 1)), 1);
        due("degree(-1/2)", x.degree(x.fraction(-1, 2)), 1);
        for (int w : WRONG) {
            due("degree(" + w + ")", x.degree(w), NONE);
        }
        due("degree behind", x.degree(x.told(1)), NONE);
        RootTowers y = new RootTowers();
        y.fraction(2, 1);
        y.root(0);
        y.root(1);
        due("degree(2^(1/4))", y.degree(2), 4);
        int c = y.apply(2, 1, 2);
        due("degree(2^(3/4))", y.degree(c), 4);
        due("degree(r1 + r2)", y.degree(y.apply(0, 1, 2)), 4);
        due("degree(r2 r2)", y.degree(y.apply(2, 2, 2)), 2);
    }

    static void promise13() {
        RootTowers x = twoRoots();
        int a = x.apply(0, 1, 3);
        String[] due = {"1", "0", "-10", "0", "1"};
        for (int i = 0; i < due.length; i++) {
            dueResult(x, "equation(r1 + r2, " + i + ")", x.equation(a, i), due[i]);
        }
        int half = x.apply(3, x.apply(0, 1, x.fraction(1, 1)), x.fraction(3, 1));
        dueResult(x, "equation 0", x.equation(half, 0), "-1/9");
        dueResult(x, "equation 1", x.equation(half, 1), "-2/3");
        dueResult(x, "equation 2", x.equation(half, 2), "1");
        for (int i : new int[] {3, 4, 16, 17, -1, Integer.MAX_VALUE, Integer.MIN_VALUE}) {
            due("equation(half, " + i + ")", x.equation(half, i), NONE);
        }
        for (int w : WRONG) {
            due("equation(" + w + ", 0)", x.equation(w, 0), NONE);
        }
        due("the result stays", result(x), "1");
        dueResult(x, "equation(2, 0)", x.equation(0, 0), "-2");
        dueResult(x, "equation(2, 1)", x.equation(0, 1), "1");
        due("equation(2, 2)", x.equation(0, 2), NONE);
        int nought = x.fraction(0, 1);
        dueResult(x, "equation(0, 0)", x.equation(nought, 0), "0");
        dueResult(x, "equation(0, 1)", x.equation(nought, 1), "1");
        dueResult(x, "equation(r1 + r2, 2) again", x.equation(a, 2), "-10");
        dueResult(x, "equation(-1/2, 0)", x.equation(x.fraction(-1, 2), 0), "1/2");
        equationAfterChanges();
        wideEquation();
    }

    static void equationAfterChanges() {
        RootTowers x = twoRoots();
        int a = x.apply(0, 1, 3);
        dueResult(x, "equation", x.equation(a, 2), "-10");
        int b = x.apply(1, 1, x.fraction(1, 1));
        dueResult(x, "equation after new elements", x.equation(a, 0), "1");
        x.root(x.fraction(5, 1));
        dueResult(x, "equation after a new root", x.equation(a, 2), "-10");
        dueResult(x, "equation of another", x.equation(b, 1), "2");
        x.clear();
        x.fraction(1, 1);
        x.fraction(1, 1);
        x.fraction(1, 1);
        x.fraction(1, 1);
        x.fraction(7, 2);
        dueResult(x, "equation after clear", x.equation(a, 0), "-7/2");
        due("degree after clear", x.degree(a), 1);
    }

    static void wideEquation() {
        RootTowers x = new RootTowers();
        x.fraction(2, 1);
        x.root(0);
        x.root(1);
        x.root(2);
        int c = x.apply(2, ten(x, 49), x.fraction(9, 1));
        int a = x.apply(2, c, 3);
        due("equation with 400 figures", x.equation(a, 0), 1);
        due("figures", x.result(1), 400);
        due("sign", x.result(0), -1);
        due("bottom", x.result(2), 1);
        int b = x.apply(2, ten(x, 50), 3);
        due("degree", x.degree(b), 8);
        due("equation with 401 figures", x.equation(b, 0), WIDE);
        due("the result stays", x.result(1), 400);
        due("sign stays", x.result(0), -1);
        for (int i = 1; i < 8; i++) {
            dueResult(x, "equation(b, " + i + ")", x.equation(b, i), "0");
        }
        dueResult(x, "equation(b, 8)", x.equation(b, 8), "1");
        due("equation(b, 9)", x.equation(b, 9), NONE);
        int d = plain(x, c);
        int e = x.apply(2, d, 3);
        due("bottom with 400 figures", x.equation(e, 0), 1);
        due("figures", x.result(2), 400);
        int f = x.apply(2, plain(x, x.apply(2, ten(x, 49), x.fraction(11, 1))), 3);
        due("bottom with 401 figures", x.equation(f, 0), WIDE);
        due("figures stay", x.result(2), 400);
    }

    static void promise14() {
        RootTowers x = twoRoots();
        String[] due = {"1", "7/5", "141/100", "707/500", "7071/5000", "141421/100000",
            "1414213/1000000"};
        for (int d = 0; d <= 6; d++) {
            dueResult(x, "cut(r1, " + d + ")", x.cut(1, d), due[d]);
        }
        for (int d : new int[] {-1, 7, 10, Integer.MIN_VALUE, Integer.MAX_VALUE}) {
            due("cut(r1, " + d + ")", x.cut(1, d), NONE);
        }
        for (int w : WRONG) {
            due("cut(" + w + ", 0)", x.cut(w, 0), NONE);
        }
        due("the result stays", result(x), "1414213/1000000");
        int turned = x.apply(1, x.fraction(0, 1), 1);
        dueResult(x, "cut(-r1, 0)", x.cut(turned, 0), "-2");
        dueResult(x, "cut(-r1, 2)", x.cut(turned, 2), "-71/50");
        dueResult(x, "cut(r1 r2, 3)", x.cut(x.apply(2, 1, 3), 3), "2449/1000");
        dueResult(x, "cut(0, 3)", x.cut(x.fraction(0, 1), 3), "0");
        dueResult(x, "cut(1/3, 6)", x.cut(x.fraction(1, 3), 6), "333333/1000000");
        dueResult(x, "cut(-1/3, 6)", x.cut(x.fraction(-1, 3), 6), "-166667/500000");
        dueResult(x, "cut(-1/2, 1)", x.cut(x.fraction(-1, 2), 1), "-1/2");
        dueResult(x, "cut(-7, 0)", x.cut(x.fraction(-7, 1), 0), "-7");
        due("cut(1000000, 0)", x.cut(x.fraction(1000000, 1), 0), NONE);
        due("cut(-1000000, 0)", x.cut(x.fraction(-1000000, 1), 0), NONE);
        due("cut(1000000, 6)", x.cut(x.fraction(1000000, 1), 6), NONE);
        due("cut(-1000000, 6)", x.cut(x.fraction(-1000000, 1), 6), NONE);
        due("cut(1000001, 0)", x.cut(x.fraction(1000001, 1), 0), NONE);
        due("cut(-1000001/1, 0)", x.cut(x.fraction(-1000001, 1), 0), NONE);
        due("cut(-2000001/2, 0)", x.cut(x.fraction(-2000001, 2), 0), NONE);
        dueResult(x, "cut(-1999999/2, 0)", x.cut(x.fraction(-1999999, 2), 0), "-1000000");
        dueResult(x, "cut(-1999999/2, 1)", x.cut(x.fraction(-1999999, 2), 1), "-1999999/2");
        dueResult(x, "cut(1999999/2, 0)", x.cut(x.fraction(1999999, 2), 0), "999999");
        cutNearLimits();
    }

    static void cutNearLimits() {
        RootTowers x = twoRoots();
        int small = x.apply(2, 1, plain(x, ten(x, 50)));
        int million = x.fraction(1000000, 1);
        int minus = x.fraction(-1000000, 1);
        dueResult(x, "just below", x.cut(x.apply(1, million, small), 6), "999999999999/1000000");
        due("just above", x.cut(x.apply(0, million, small), 6), NONE);
        dueResult(x, "just above the lower", x.cut(x.apply(0, minus, small), 6), "-1000000");
        due("just below the lower", x.cut(x.apply(1, minus, small), 6), NONE);
        dueResult(x, "just above 0", x.cut(small, 3), "0");
        dueResult(x, "just below 0", x.cut(x.apply(1, x.fraction(0, 1), small), 3), "-1/1000");
        int fine = x.apply(1, 1, x.fraction(1, 1));
        for (int i = 0; i < 7; i++) {
            fine = x.apply(2, fine, fine);
        }
        dueResult(x, "cut((r1 - 1)^128, 3)", x.cut(fine, 3), "0");
        int under = x.apply(1, x.fraction(7, 2), fine);
        dueResult(x, "cut(7/2 - (r1 - 1)^128, 1)", x.cut(under, 1), "17/5");
        dueResult(x, "cut(7/2 + (r1 - 1)^128, 1)",
            x.cut(x.apply(0, x.fraction(7, 2), fine), 1), "7/2");
        due("large", x.cut(ten(x, 59), 0), NONE);
        due("large with a root", x.cut(x.apply(2, ten(x, 30), 1), 0), NONE);
    }

    static void promise15() {
        RootTowers x = new RootTowers();
        x.fraction(6, 1);
        x.root(0);
        int five = x.fraction(5, 1);
        int two = x.apply(0, 1, 1);
        int plus = x.apply(0, five, two);
        int minus = x.apply(1, five, two);
        dueResult(x, "denest(5 + 2 r1, 0)", x.denest(plus, 0), "3");
        dueResult(x, "denest(5 + 2 r1, 1)", x.denest(plus, 1), "2");
        dueResult(x, "denest(5 - 2 r1, 0)", x.denest(minus, 0), "3");
        dueResult(x, "denest(5 - 2 r1, 1)", x.denest(minus, 1), "2");
        due("denest(-5 + 2 r1, 0)", x.denest(x.apply(1, two, five), 0), NONE);
        due("denest(r1, 0)", x.denest(1, 0), NONE);
        due("denest(5 + r1, 0)", x.denest(x.apply(0, five, 1), 0), NONE);
        due("denest(5 + r1, 1)", x.denest(x.apply(0, five, 1), 1), NONE);
        due("the result stays", result(x), "2");
        dueResult(x, "denest of a fraction, 0", x.denest(five, 0), "5");
        dueResult(x, "denest of a fraction, 1", x.denest(five, 1), "0");
        int nought = x.fraction(0, 1);
        dueResult(x, "denest(0, 0)", x.denest(nought, 0), "0");
        dueResult(x, "denest(0, 1)", x.denest(nought, 1), "0");
        due("denest(-5, 0)", x.denest(x.fraction(-5, 1), 0), NONE);
        due("denest(-5, 1)", x.denest(x.fraction(-5, 1), 1), NONE);
        int parts = x.apply(3, plus, x.fraction(7, 1));
        dueResult(x, "denest((5 + 2 r1) / 7, 0)", x.denest(parts, 0), "3/7");
        dueResult(x, "denest((5 + 2 r1) / 7, 1)", x.denest(parts, 1), "2/7");
        for (int which : new int[] {2, -1, 3, Integer.MIN_VALUE, Integer.MAX_VALUE}) {
            due("denest(plus, " + which + ")", x.denest(plus, which), NONE);
        }
        for (int w : WRONG) {
            due("denest(" + w + ", 0)", x.denest(w, 0), NONE);
        }
        x.fraction(5, 1);
        int r2 = x.root(x.told(1) - 1);
        due("denest(r2, 0)", x.denest(r2, 0), NONE);
        int high = x.apply(0, x.fraction(6, 1), x.apply(0, r2, r2));
        due("denest(6 + 2 r2, 0)", x.denest(high, 0), NONE);
        due("the result stays", result(x), "2/7");
        dueResult(x, "denest(5 + 2 r1, 0) in a higher tower", x.denest(plus, 0), "3");
        fractionDenest();
    }

    static void fractionDenest() {
        RootTowers x = new RootTowers();
        x.fraction(3, 8);
        int r = x.root(0);
        int a = x.apply(0, x.fraction(5, 4), x.apply(0, r, r));
        dueResult(x, "denest(5/4 + 2 r1, 0)", x.denest(a, 0), "3/4");
        dueResult(x, "denest(5/4 + 2 r1, 1)", x.denest(a, 1), "1/2");
        RootTowers y = new RootTowers();
        y.fraction(5, 4);
        dueResult(y, "denest without roots, 0", y.denest(0, 0), "5/4");
        dueResult(y, "denest without roots, 1", y.denest(0, 1), "0");
    }

    static void promise16() {
        RootTowers x = fourRoots();
        due("text(2)", text(x, 0), "2");
        due("text(r4)", text(x, 7), "1*r4");
        int all = x.apply(2, x.apply(2, 1, 3), x.apply(2, 5, 7));
        due("text of all roots", text(x, all), "1*r1*r2*r3*r4");
        int turned = x.apply(1, x.fraction(0, 1), all);
        due("text, turned", text(x, turned), "-1*r1*r2*r3*r4");
        int sum = x.apply(1, x.apply(0, x.fraction(-2, 3), x.apply(2, 5, x.fraction(4, 9))), 3);
        due("text of a sum", text(x, sum), "-2/3-1*r2+4/9*r3");
        due("text(0)", text(x, x.fraction(0, 1)), "0");
        due("text of a difference", text(x, x.apply(1, sum, sum)), "0");
        due("letters", x.text(sum), 16);
        due("text of 17/10", text(x, x.fraction(-170, -100)), "17/10");
        int t = ten(x, 59);
        due("text of 10^59", text(x, t).length(), 60);
        String last = letters(x);
        for (int w : WRONG) {
            due("text(" + w + ")", x.text(w), NONE);
        }
        due("text behind", x.text(x.told(1)), NONE);
        due("the text stays", letters(x), last);
        longText();
    }

    static void longText() {
        RootTowers x = fourRoots();
        int e = -1;
        int t = plain(x, ten(x, 59));
        int nines = x.apply(2, x.fraction(-7, 1), t);
        for (int k = 0; k < 4; k++) {
            int f = x.apply(0, x.fraction(1, 1), 2 * k + 1);
            e = e < 0 ? f : x.apply(2, e, f);
        }
        int a = x.apply(2, e, nines);
        String s = text(x, a);
        due("length", s.length(), 16 * 63 + 8 * 4 * 3);
        due("start", s.startsWith("-7/10000"), true);
        due("end", s.endsWith("0*r1*r2*r3*r4"), true);
    }

    static void promise17() {
        RootTowers x = twoRoots();
        due("letter(0) without text", letter(x, 0), THROWN);
        due("text(99)", x.text(99), NONE);
        due("letter(0) after NONE", letter(x, 0), THROWN);
        int a = x.apply(1, x.fraction(5, 2), 3);
        x.text(a);
        String due = "5/2-1*r2";
        for (int i = 0; i < due.length(); i++) {
            due("letter(" + i + ")", letter(x, i), (int) due.charAt(i));
        }
        for (int i : new int[] {8, 9, -1, 2240, 5000, Integer.MIN_VALUE, Integer.MAX_VALUE}) {
            due("letter(" + i + ")", letter(x, i), THROWN);
        }
        x.text(-1);
        due("text stays after NONE", letters(x), due);
        x.root(x.fraction(7, 1));
        x.cut(a, 3);
        due("text stays", letters(x), due);
        x.text(0);
        due("shorter text", letters(x), "2");
        due("letter(1)", letter(x, 1), THROWN);
        x.clear();
        due("letter(0) after clear", letter(x, 0), THROWN);
    }

    static void promise18() {
        RootTowers x = new RootTowers();
        x.fraction(-12345, 678);
        x.coordinate(0, 0);
        due("result(0)", x.result(0), -1);
        due("result(1)", x.result(1), 4);
        due("result(2)", x.result(2), 3);
        for (int w : new int[] {3, -1, -2, Integer.MIN_VALUE, Integer.MAX_VALUE}) {
            due("result(" + w + ")", x.result(w), -2);
        }
        x.fraction(0, 9);
        x.coordinate(1, 0);
        due("result(0) of 0", x.result(0), 0);
        due("result(1) of 0", x.result(1), 1);
        due("result(2) of 0", x.result(2), 1);
        long ten = 1;
        for (int n = 1; n <= 19; n++) {
            x.coordinate(x.fraction(ten, 1), 0);
            due("figures of 10^" + (n - 1), x.result(1), n);
            due("sign", x.result(0), 1);
            x.coordinate(x.fraction(-1, ten), 0);
            due("figures of 10^-" + (n - 1), x.result(2), n);
            due("sign", x.result(0), -1);
            ten *= 10;
        }
    }

    static void promise19() {
        RootTowers x = new RootTowers();
        x.fraction(-9223372036854775807L, 1000000007L);
        x.coordinate(0, 0);
        String up = "9223372036854775807";
        String down = "1000000007";
        for (int i = 0; i < up.length(); i++) {
            due("figure(0, " + i + ")", x.figure(0, i), up.charAt(i) - '0');
        }
        for (int i = 0; i < down.length(); i++) {
            due("figure(1, " + i + ")", x.figure(1, i), down.charAt(i) - '0');
        }
        int[][] none = {
            {0, 19}, {1, 10}, {0, -1}, {1, -1}, {2, 0}, {-1, 0}, {0, Integer.MAX_VALUE},
            {1, Integer.MIN_VALUE}, {Integer.MIN_VALUE, 0}, {Integer.MAX_VALUE, 0},
        };
        for (int[] n : none) {
            due("figure(" + n[0] + ", " + n[1] + ")", x.figure(n[0], n[1]), NONE);
        }
        int t = ten(x, 59);
        x.coordinate(t, 0);
        due("figure(0, 0)", x.figure(0, 0), 1);
        for (int i = 1; i < 60; i++) {
            due("figure(0, " + i + ")", x.figure(0, i), 0);
        }
        due("figure(0, 60)", x.figure(0, 60), NONE);
        due("figure(1, 0)", x.figure(1, 0), 1);
        due("figure(1, 1)", x.figure(1, 1), NONE);
    }

    static void promise20() {
        RootTowers x = new RootTowers();
        due("told(0)", x.told(0), 0);
        due("told(1)", x.told(1), 0);
        x.fraction(2, 1);
        due("told(1)", x.told(1), 1);
        x.root(0);
        due("told(0)", x.told(0), 1);
        due("told(1)", x.told(1), 2);
        x.root(0);
        due("told(0)", x.told(0), 1);
        due("told(1)", x.told(1), 3);
        for (int w : new int[] {2, 3, -1, -2, Integer.MIN_VALUE, Integer.MAX_VALUE}) {
            due("told(" + w + ")", x.told(w), NONE);
        }
        due("told(0) of four", fourRoots().told(0), 4);
        due("told(1) of sixty", full().told(1), 60);
    }

    static void promise21() {
        RootTowers x = fourRoots();
        x.text(7);
        x.equation(7, 0);
        due("clear()", x.clear(), 8);
        due("state", state(x), "0 roots, 0 elements, result 0, text ");
        due("letter(0)", letter(x, 0), THROWN);
        due("sign(0)", x.sign(0), -2);
        due("radicand(1, 0)", x.radicand(1, 0), NONE);
        due("clear() again", x.clear(), 0);
        due("fraction", x.fraction(5, 1), 0);
        due("coordinate(0, 1)", x.coordinate(0, 1), NONE);
        due("root", x.root(0), 1);
        due("text", text(x, 1), "1*r1");
        dueResult(x, "radicand(1, 0)", x.radicand(1, 0), "5");
        due("isSquare", x.isSquare(x.fraction(2, 1)), 0);
        dueResult(x, "cut(1, 4)", x.cut(1, 4), "559/250");
        due("clear()", x.clear(), 3);
        RootTowers f = full();
        due("clear() of sixty", f.clear(), 60);
        due("fraction after it", f.fraction(1, 1), 0);
    }

    public static void main(String[] args) {
        for (promise = 1; promise <= 21; promise++) {
            switch (promise) {
                case 1: promise1(); break;
                case 2: promise2(); break;
                case 3: promise3(); break;
                case 4: promise4(); break;
                case 5: promise5(); break;
                case 6: promise6(); break;
                case 7: promise7(); break;
                case 8: promise8(); break;
                case 9: promise9(); break;
                case 10: promise10(); break;
                case 11: promise11(); break;
                case 12: promise12(); break;
                case 13: promise13(); break;
                case 14: promise14(); break;
                case 15: promise15(); break;
                case 16: promise16(); break;
                case 17: promise17(); break;
                case 18: promise18(); break;
                case 19: promise19(); break;
                case 20: promise20(); break;
                default: promise21(); break;
            }
        }
        System.out.println(wrong == 0 ? "all promises hold" : wrong + " answers are not as due");
        if (wrong != 0) {
            System.exit(1);
        }
    }
}
