import java.math.BigInteger;
import java.util.ArrayList;
import java.util.HashMap;
import java.util.List;
import java.util.Map;
import java.util.TreeSet;

/**
 * The document's sentences that name a boundary case, each with a test of its own.
 *
 * <p>A test is a START, calls that make a state, and ROWS, written "call = answer", that are asked
 * one after the other. A row that begins with "! " is a refusal: the call must also change nothing.
 * For that, all that can be asked is asked of twins, one with and one without the call. Beside the
 * calls of the face a row may be RESULT (THE RESULT, read figure by figure), TEXT (the latest text,
 * read letter by letter) or WRITTEN(a) (text(a), and its letters, so many as it said).
 */
public final class EdgesTest {
    static final int MOST_CALLS = 512;
    static final String THROWN = "throws.ArrayIndexOutOfBoundsException";
    static final String NAMES = "NONE ZERO NEGATIVE DEEP WIDE";
    static final String MIN = "-9223372036854775808";
    static final String MAX = "9223372036854775807";
    static final int LEAST_INT = Integer.MIN_VALUE;
    static final int GREATEST_INT = Integer.MAX_VALUE;

    /** Towers of 0 to 4 roots; with h roots element 2 k - 1 is r_k, and there are 2 h elements. */
    static final String[] TOWER = {
        "",
        "fraction(2, 1); root(0)",
        "fraction(2, 1); root(0); fraction(3, 1); root(2)",
        "fraction(2, 1); root(0); fraction(3, 1); root(2); fraction(5, 1); root(4)",
        "fraction(2, 1); root(0); fraction(3, 1); root(2); fraction(5, 1); root(4); "
            + "fraction(7, 1); root(6)",
    };

    /**
     * Element 4 is 10^59, 5 is 1, 7 is 10, 10 is 10^60 - 1, 12 the same below 0, 13 is one over it,
     * 14 is 10^-59, 15 is 2, 16 is r1, 17 is 10 times r1, 18 is 13 times r1, 19 is 1/10.
     */
    static final String SIXTY = "fraction(1000000000000000000, 1); apply(2, 0, 0); apply(2, 0, 1); "
        + "fraction(100000, 1); apply(2, 2, 3); fraction(1, 1); apply(1, 4, 5); fraction(10, 1); "
        + "apply(2, 6, 7); fraction(9, 1); apply(0, 8, 9); fraction(-1, 1); apply(2, 10, 11); "
        + "plain(10); plain(4); fraction(2, 1); root(15); apply(2, 10, 16); apply(2, 13, 16); "
        + "fraction(1, 10)";

    static int wrong = 0;
    static int tests = 0;
    static int rows = 0;
    static String sentence = "";
    static final Map<String, List<String>> SEEN = new HashMap<>();

    /** Calls on one new object, never more than the document allows. */
    static final class Run {
        final RootTowers x = new RootTowers();
        int calls = 0;

        Run(String start) {
            for (String call : callsOf(start)) {
                answer(call);
            }
        }

        String answer(String call) {
            String name = call.substring(0, call.indexOf('('));
            long[] n = numbersOf(call);
            calls++;
            if (calls > MOST_CALLS) {
                throw new IllegalStateException("more calls than the document allows");
            }
            try {
                return String.valueOf(n.length == 1 ? one(name, (int) n[0]) : more(name, n));
            } catch (RuntimeException e) {
                String by = e.getMessage() == null ? "throws." : "the machine throws.";
                return by + e.getClass().getSimpleName();
            }
        }

        private int one(String name, int n) {
            switch (name) {
                case "plain": return x.plain(n);
                case "root": return x.root(n);
                case "isSquare": return x.isSquare(n);
                case "sign": return x.sign(n);
                case "level": return x.level(n);
                case "degree": return x.degree(n);
                case "text": return x.text(n);
                case "letter": return x.letter(n);
                case "result": return x.result(n);
                case "told": return x.told(n);
                default: throw new IllegalStateException(name);
            }
        }

        private int more(String name, long[] n) {
            switch (name) {
                case "fraction": return x.fraction(n[0], n[1]);
                case "apply": return x.apply((int) n[0], (int) n[1], (int) n[2]);
                case "compare": return x.compare((int) n[0], (int) n[1]);
                case "coordinate": return x.coordinate((int) n[0], (int) n[1]);
                case "radicand": return x.radicand((int) n[0], (int) n[1]);
                case "equation": return x.equation((int) n[0], (int) n[1]);
                case "cut": return x.cut((int) n[0], (int) n[1]);
                case "denest": return x.denest((int) n[0], (int) n[1]);
                case "figure": return x.figure((int) n[0], (int) n[1]);
                case "clear": return x.clear();
                default: throw new IllegalStateException(name);
            }
        }

        String side(int side, int from, int most) {
            StringBuilder s = new StringBuilder();
            for (int i = from; i < from + most; i++) {
                String figure = answer("figure(" + side + ", " + i + ")");
                if (figure.equals("-1")) {
                    break;
                }
                s.append(figure);
            }
            return s.toString();
        }

        String result() {
            String sign = answer("result(0)").equals("-1") ? "-" : "";
            String top = side(0, 0, 250);
            String bottom = side(1, 0, 250);
            return sign + top + (bottom.equals("1") ? "" : "/" + bottom);
        }

        String letters(int from, int most) {
            StringBuilder s = new StringBuilder();
            for (int i = from; i < from + most; i++) {
                String letter = answer("letter(" + i + ")");
                if (letter.contains("throws")) {
                    return s + (letter.equals(THROWN) ? "" : letter);
                }
                s.append((char) Integer.parseInt(letter));
            }
            return s.toString();
        }

        String written(String call) {
            String length = answer(call.replace("WRITTEN", "text"));
            String s = letters(0, 400);
            boolean asSaid = length.equals(String.valueOf(s.length()));
            return asSaid ? s : s + ", but text() said " + length;
        }

        String asked(String call) {
            if (call.equals("RESULT")) {
                return result();
            }
            if (call.equals("TEXT")) {
                return letters(0, 400);
            }
            return call.startsWith("WRITTEN") ? written(call) : answer(call);
        }
    }

    /** Reads a state part by part, on a new twin whenever the calls of one would run out. */
    static final class Reader {
        final String start;
        Run run;

        Reader(String start) {
            this.start = start;
            run = new Run(start);
        }

        private void renew(int calls) {
            if (run.calls + calls > MOST_CALLS) {
                run = new Run(start);
            }
        }

        String radicand(int k, int i) {
            renew(130);
            return "radicand " + k + ", " + i + ": " + run.answer("radicand(" + k + ", " + i + ")")
                + ", " + run.result();
        }

        String element(int a) {
            renew(130);
            int length = Integer.parseInt(run.answer("text(" + a + ")"));
            boolean fits = run.calls + length + 1 <= MOST_CALLS;
            String text = fits ? run.letters(0, length + 1)
                : longText(both(start, "text(" + a + ")"));
            return "element " + a + ": " + length + " letters, " + text;
        }
    }

    static String[] callsOf(String start) {
        return start.isEmpty() ? new String[0] : start.split("; ");
    }

    static long[] numbersOf(String call) {
        String inside = call.substring(call.indexOf('(') + 1, call.indexOf(')'));
        String[] parts = inside.isEmpty() ? new String[0] : inside.split(", ");
        long[] n = new long[parts.length];
        for (int i = 0; i < n.length; i++) {
            n[i] = Long.parseLong(parts[i]);
        }
        return n;
    }

    /** Joins starts, an empty one too. */
    static String both(String first, String second) {
        return first.isEmpty() ? second : second.isEmpty() ? first : first + "; " + second;
    }

    static String named(String answer) {
        String[] names = NAMES.split(" ");
        for (int i = 0; i < names.length; i++) {
            if (answer.equals(names[i])) {
                return String.valueOf(-1 - i);
            }
        }
        return answer;
    }

    static void report(String what) {
        wrong++;
        System.out.println(sentence + ": " + what);
    }

    static void of(String words) {
        sentence = words;
        tests++;
    }

    static void after(String start, String... asked) {
        Run run = new Run(start);
        String so = start;
        for (String row : asked) {
            boolean refusal = row.startsWith("! ");
            int cut = row.indexOf(" = ");
            String call = row.substring(refusal ? 2 : 0, cut);
            String due = named(row.substring(cut + 3));
            String got = run.asked(call);
            rows++;
            if (!got.equals(due)) {
                report("after " + so + ": " + call + " answered " + got + ", due is " + due);
            }
            if (refusal) {
                dueUnchanged(so, call);
            }
            so = both(so, call.replace("WRITTEN", "text").replace("RESULT", "result(0)")
                .replace("TEXT", "told(0)"));
        }
    }

    static void dueUnchanged(String start, String call) {
        List<String> before = everything(start);
        List<String> behind = whole(both(start, call));
        for (int i = 0; i < Math.max(before.size(), behind.size()); i++) {
            String a = i < before.size() ? before.get(i) : "nothing";
            String b = i < behind.size() ? behind.get(i) : "nothing";
            if (!a.equals(b)) {
                report("after " + start + ": " + call + " changed [" + a + "] to [" + b + "]");
                return;
            }
        }
    }

    static List<String> everything(String start) {
        return SEEN.computeIfAbsent(start, EdgesTest::whole);
    }

    /** All that can be asked of the state; each part on a new object, to stay within its calls. */
    static List<String> whole(String start) {
        List<String> all = new ArrayList<>();
        Run run = new Run(start);
        int roots = Integer.parseInt(run.answer("told(0)"));
        int elements = Integer.parseInt(run.answer("told(1)"));
        all.add(roots + " roots, " + elements + " elements");
        all.add("result, sign " + run.answer("result(0)"));
        all.add("result, figures " + run.answer("result(1)") + ", " + run.answer("result(2)"));
        for (int side = 0; side < 2; side++) {
            all.add("result, side " + side + ": " + new Run(start).side(side, 0, 405));
        }
        all.add("text: " + longText(start));
        Reader reader = new Reader(start);
        for (int k = 1; k <= roots; k++) {
            for (int i = 0; i < 1 << (k - 1); i++) {
                all.add(reader.radicand(k, i));
            }
        }
        for (int a = 0; a < elements; a++) {
            all.add(reader.element(a));
        }
        for (int a = Math.max(0, elements - 4); a < elements; a++) {
            Run last = new Run(start);
            all.add("of " + a + ": level " + last.answer("level(" + a + ")")
                + ", sign " + last.answer("sign(" + a + ")")
                + ", degree " + last.answer("degree(" + a + ")")
                + ", equation " + last.answer("equation(" + a + ", 0)") + last.side(0, 0, 300));
        }
        Run next = new Run(start);
        all.add("next: " + next.answer("fraction(7, 3)") + ", " + next.answer("told(1)"));
        return all;
    }

    static String longText(String start) {
        StringBuilder s = new StringBuilder();
        for (int from = 0; from < 2400; from += 400) {
            String part = new Run(start).letters(from, 400);
            s.append(part);
            if (part.length() < 400) {
                break;
            }
        }
        return s.toString();
    }

    static String many(String letter, int n) {
        return letter.repeat(n);
    }

    /** n fractions: element i is i - 1, so that 0 is below 0, 1 is 0, 2 is 1, 5 is 4. */
    static String fractions(int n) {
        StringBuilder s = new StringBuilder();
        for (int i = 0; i < n; i++) {
            s.append(i == 0 ? "" : "; ").append("fraction(").append(i - 1).append(", 1)");
        }
        return s.toString();
    }

    // Terms

    static void fractionsAreLowest() {
        of("A FRACTION is a top and a bottom that have nothing in common, the bottom above 0");
        after("fraction(6, 4); fraction(6, -4); fraction(-6, -4); fraction(0, -5)",
            "coordinate(0, 0) = 1", "RESULT = 3/2", "coordinate(1, 0) = 1", "RESULT = -3/2",
            "coordinate(2, 0) = 1", "RESULT = 3/2", "coordinate(3, 0) = 1", "RESULT = 0",
            "figure(1, 0) = 1", "figure(1, 1) = NONE");
        after("fraction(1, 6); fraction(1, 3); apply(0, 0, 1); fraction(-2, 3); "
            + "fraction(9, 4); apply(2, 3, 4)", "WRITTEN(2) = 1/2", "WRITTEN(5) = -3/2");
        after("fraction(8, 12); root(0); fraction(1, 4); apply(0, 1, 2)", "radicand(1, 0) = 1",
            "RESULT = 2/3", "equation(3, 1) = 1", "RESULT = -1/2", "equation(3, 0) = 1",
            "RESULT = -29/48", "cut(2, 2) = 1", "RESULT = 1/4", "denest(2, 0) = 1", "RESULT = 1/4");
    }

    static void rootsAreAtMostFour() {
        of("THE TOWER has ROOTS r1, r2, .., at most 4; at first none");
        after("", "told(0) = 0");
        after(both(TOWER[3], "fraction(7, 1)"), "told(0) = 3", "root(6) = 7", "told(0) = 4");
        after(both(TOWER[4], "fraction(11, 1)"), "told(0) = 4", "! root(8) = DEEP", "told(0) = 4");
    }

    static void rootsArePositive() {
        of("rk is the positive square root of its RADICAND, a positive number that is no square");
        after(TOWER[4], "sign(1) = 1", "sign(3) = 1", "sign(5) = 1", "sign(7) = 1");
        after("fraction(0, 1); fraction(1, 1); fraction(9, 4); root(0); root(1); root(2)",
            "told(0) = 0");
        after("fraction(2, 1); root(0); root(0); fraction(8, 1); root(3)", "told(0) = 1",
            "level(4) = 1");
        after("fraction(2, 1); root(0); fraction(1, 1); apply(1, 1, 2); root(3)", "told(0) = 2",
            "radicand(2, 0) = 1", "RESULT = -1", "radicand(2, 1) = 1", "RESULT = 1", "sign(4) = 1");
    }

    static void coordinatesAreTwoToTheHeight() {
        of("With h ROOTS each number of LEVEL h has 2^h COORDINATES");
        for (int h = 0; h <= 4; h++) {
            int last = (1 << h) - 1;
            after(both(TOWER[h], "fraction(13, 1)"), "coordinate(" + 2 * h + ", 0) = 1",
                "RESULT = 13", "coordinate(" + 2 * h + ", " + last + ") = 1",
                "RESULT = " + (h == 0 ? 13 : 0),
                "! coordinate(" + 2 * h + ", " + (last + 1) + ") = NONE",
                "! coordinate(" + 2 * h + ", -1) = NONE");
        }
    }

    static void coordinatesStandWithRoots() {
        of("COORDINATE i stands with the product of those ROOTS rk for which bit k - 1 of i is 1");
        for (int i = 1; i < 16; i++) {
            String start = both(TOWER[4], "fraction(1, 1)");
            int last = 8;
            for (int k = 1; k <= 4; k++) {
                if ((i >> (k - 1) & 1) == 1) {
                    start = both(start, "apply(2, " + last + ", " + (2 * k - 1) + ")");
                    last++;
                }
            }
            for (int j = 0; j < 16; j++) {
                after(start, "coordinate(" + last + ", " + j + ") = 1",
                    "RESULT = " + (i == j ? 1 : 0));
            }
        }
    }

    static void elementsAreAtMostSixty() {
        of("ELEMENTS 0, 1, .. are numbers of THE TOWER, at most 60");
        String full = fractions(60);
        after(fractions(59), "told(1) = 59", "fraction(1, 1) = 59", "told(1) = 60", "sign(59) = 1");
        after(full, "told(1) = 60", "! fraction(1, 1) = NONE", "! apply(0, 0, 0) = NONE",
            "! plain(2) = NONE", "! root(5) = NONE", "told(1) = 60", "sign(59) = 1",
            "sign(60) = -2");
    }

    static void elementsStayWhenItGrows() {
        of("They stay when it grows (new COORDINATES are 0)");
        String made = both(TOWER[2], "fraction(-2, 7); apply(2, 1, 3); apply(0, 4, 5); "
            + "apply(3, 6, 2); root(2)");
        String text = "-2/21+1/3*r1*r2";
        String three = both(made, "fraction(5, 1); root(9)");
        String four = both(three, "fraction(7, 1); root(11)");
        after(made, "WRITTEN(7) = " + text, "! coordinate(7, 4) = NONE");
        after(three, "WRITTEN(7) = " + text, "coordinate(7, 0) = 1", "RESULT = -2/21",
            "coordinate(7, 3) = 1", "RESULT = 1/3", "! coordinate(7, 8) = NONE");
        after(four, "WRITTEN(7) = " + text, "coordinate(7, 0) = 1", "RESULT = -2/21",
            "coordinate(7, 3) = 1", "RESULT = 1/3", "level(7) = 2", "! coordinate(7, 16) = NONE");
        for (int i = 4; i < 8; i++) {
            after(three, "coordinate(7, 3) = 1", "coordinate(7, " + i + ") = 1", "RESULT = 0");
        }
        for (int i = 4; i < 16; i++) {
            after(four, "coordinate(7, 3) = 1", "coordinate(7, " + i + ") = 1", "RESULT = 0");
        }
    }

    static void resultIsNoughtAtFirst() {
        of("THE RESULT is a FRACTION, 0 at first");
        after("", "RESULT = 0", "result(0) = 0", "result(1) = 1", "result(2) = 1");
        after(both(TOWER[4], "text(7); degree(7); sign(7); compare(1, 3)"), "RESULT = 0",
            "result(2) = 1");
    }

    static void resultingAnswersOne() {
        of("A call that \"results\" makes it, and answers 1");
        after(TOWER[1], "coordinate(0, 0) = 1", "RESULT = 2", "radicand(1, 0) = 1", "RESULT = 2",
            "equation(1, 1) = 1", "RESULT = 0", "cut(1, 1) = 1", "RESULT = 7/5", "denest(0, 1) = 1",
            "RESULT = 0");
    }

    static void onlyResultingCallsMakeIt() {
        of("THE RESULT stays in a call that does not result");
        String made = both(TOWER[2], "fraction(22, 7); coordinate(4, 0)");
        after(made, "fraction(1, 2) = 5", "apply(0, 1, 3) = 6", "plain(1) = 7", "root(0) = 8",
            "isSquare(0) = 1", "sign(0) = 1", "compare(0, 1) = 1", "level(3) = 2", "degree(6) = 4",
            "text(6) = 9", "letter(0) = 49", "told(0) = 2", "RESULT = 22/7");
    }

    static void wideTops() {
        of("WIDE: a COORDINATE of a new ELEMENT would have more than 60 figures in its top");
        String nines = many("9", 60);
        after(SIXTY, "WRITTEN(10) = " + nines, "WRITTEN(12) = -" + nines,
            "WRITTEN(17) = " + nines + "*r1", "text(4) = 60");
        after(SIXTY, "! apply(0, 10, 5) = WIDE", "! apply(1, 12, 5) = WIDE",
            "! apply(2, 4, 7) = WIDE", "! apply(3, 4, 19) = WIDE", "! apply(0, 12, 12) = WIDE");
        after(SIXTY, "! apply(0, 17, 16) = WIDE", "! apply(2, 17, 15) = WIDE",
            "! apply(2, 10, 10) = WIDE", "! apply(3, 17, 18) = WIDE", "told(1) = 20");
        after(SIXTY, "apply(0, 8, 5) = 20", "apply(1, 10, 5) = 21", "apply(0, 17, 5) = 22",
            "apply(3, 10, 7) = 23", "WRITTEN(23) = " + nines + "/10");
    }

    static void wideBottoms() {
        of("WIDE: a COORDINATE of a new ELEMENT would have more than 60 figures in its bottom");
        String nines = many("9", 60);
        after(SIXTY, "WRITTEN(13) = 1/" + nines, "WRITTEN(18) = 1/" + nines + "*r1",
            "WRITTEN(14) = 1/1" + many("0", 59));
        after(SIXTY, "! apply(2, 14, 19) = WIDE", "! apply(3, 13, 15) = WIDE",
            "! apply(3, 14, 7) = WIDE", "! apply(2, 13, 13) = WIDE", "! apply(0, 13, 14) = WIDE",
            "! apply(1, 13, 14) = WIDE");
        after(SIXTY, "! apply(3, 18, 15) = WIDE", "! apply(2, 18, 19) = WIDE", "told(1) = 20");
        after(both(SIXTY, "fraction(1, 9); fraction(1, 11)"), "apply(0, 14, 20) = 22",
            "! apply(0, 14, 21) = WIDE", "apply(2, 14, 20) = 23", "! apply(2, 14, 21) = WIDE");
    }

    static void theReckoningIsNotAsked() {
        of("(What is met within the reckoning is not asked.)");
        after(SIXTY, "apply(3, 10, 10) = 20", "WRITTEN(20) = 1", "apply(3, 17, 10) = 21",
            "WRITTEN(21) = 1*r1", "apply(2, 17, 18) = 22", "WRITTEN(22) = 2");
        after(SIXTY, "apply(0, 13, 13) = 20", "WRITTEN(20) = 2/" + many("9", 60),
            "apply(1, 13, 13) = 21", "WRITTEN(21) = 0", "apply(1, 17, 17) = 22", "WRITTEN(22) = 0");
        after(SIXTY, "compare(10, 12) = 1", "compare(13, 14) = -1", "sign(17) = 1",
            "isSquare(10) = 0", "degree(17) = 2", "equation(17, 0) = 1", "result(1) = 121",
            "level(18) = 1");
    }

    static void theFirstRefusalIsAnswered() {
        of("Of several refusals the one named first is answered");
        String full = fractions(60);
        after(full, "! fraction(1, 0) = NONE", "! apply(3, 2, 1) = NONE", "! apply(4, 2, 1) = NONE",
            "! plain(1) = NONE", "! root(0) = NONE");
        after(both(TOWER[4], "fraction(-11, 1)"), "! root(8) = NEGATIVE");
        after(both(SIXTY, "fraction(0, 1)"), "! apply(3, 17, 20) = ZERO",
            "! apply(3, 99, 20) = NONE", "! apply(2, 17, 99) = NONE", "! apply(4, 17, 17) = NONE");
    }

    // Promises 1 to 5

    static void newObject() {
        of("Promise 1: No ROOTS, no ELEMENTS, THE RESULT 0");
        after(both(TOWER[4], "text(7); coordinate(7, 8)"), "RESULT = 1");
        after("", "told(0) = 0", "told(1) = 0", "RESULT = 0", "result(2) = 1",
            "! radicand(1, 0) = NONE", "! sign(0) = -2", "! letter(0) = " + THROWN,
            "fraction(5, 1) = 0", "told(1) = 1");
    }

    static void fractionNumbers() {
        of("Promise 2: The FRACTION up / down becomes an ELEMENT: its number");
        String far = MIN.substring(1);
        String[][] parts = {
            {"1", "1", "1"}, {"-1", "1", "-1"}, {"1", "-1", "-1"}, {"-1", "-1", "1"},
            {"0", "7", "0"}, {"0", MIN, "0"}, {"0", MAX, "0"}, {MIN, "1", MIN}, {MAX, "1", MAX},
            {MIN, "-1", far}, {MAX, "-1", "-" + MAX}, {"1", MIN, "-1/" + far},
            {"-1", MIN, "1/" + far}, {"1", MAX, "1/" + MAX}, {MIN, MIN, "1"}, {MAX, MAX, "1"},
            {MIN, MAX, MIN + "/" + MAX}, {MAX, MIN, "-" + MAX + "/" + far},
            {MIN, "2", "-4611686018427387904"}, {"2", MIN, "-1/4611686018427387904"},
        };
        for (String[] p : parts) {
            after("", "fraction(" + p[0] + ", " + p[1] + ") = 0", "WRITTEN(0) = " + p[2],
                "coordinate(0, 0) = 1", "RESULT = " + p[2], "fraction(1, 1) = 1");
        }
    }

    static void fractionWhenFull() {
        of("Promise 2: NONE when there are 60");
        after(fractions(58), "fraction(1, 3) = 58", "fraction(1, 4) = 59",
            "! fraction(1, 5) = NONE", "WRITTEN(58) = 1/3", "WRITTEN(59) = 1/4",
            "! fraction(1, 5) = NONE");
    }

    static void fractionOverNought() {
        of("Promise 2: ZERO when down is 0");
        for (String up : new String[] {"0", "1", "-1", MIN, MAX}) {
            after("fraction(3, 1); coordinate(0, 0); text(0)", "! fraction(" + up + ", 0) = ZERO");
        }
        after(fractions(59), "! fraction(1, 0) = ZERO", "fraction(1, 1) = 59");
    }

    static void applyOps() {
        of("Promise 3: NONE when there is no such op");
        after(both(TOWER[1], "coordinate(1, 1); text(1)"), "apply(0, 0, 1) = 2",
            "WRITTEN(2) = 2+1*r1", "apply(1, 0, 1) = 3", "WRITTEN(3) = 2-1*r1",
            "apply(2, 0, 1) = 4", "WRITTEN(4) = 2*r1", "apply(3, 0, 1) = 5", "WRITTEN(5) = 1*r1");
        for (int op : new int[] {-1, 4, 5, LEAST_INT, GREATEST_INT}) {
            after(both(TOWER[1], "coordinate(1, 1); text(1)"), "! apply(" + op + ", 0, 1) = NONE");
        }
    }

    static void applyElements() {
        of("Promise 3: NONE when there is no such ELEMENT");
        after("", "! apply(0, 0, 0) = NONE", "! apply(3, -1, -1) = NONE");
        for (int op = 0; op < 4; op++) {
            for (int e : new int[] {-1, 4, 5, 60, LEAST_INT, GREATEST_INT}) {
                after(TOWER[2], "! apply(" + op + ", " + e + ", 0) = NONE",
                    "! apply(" + op + ", 0, " + e + ") = NONE");
            }
            after(TOWER[2], "apply(" + op + ", 0, 3) = 4", "apply(" + op + ", 3, 0) = 5");
        }
    }

    static void applyWhenFull() {
        of("Promise 3: NONE when there are 60");
        for (int op = 0; op < 4; op++) {
            after(fractions(59), "apply(" + op + ", 3, 4) = 59",
                "! apply(" + op + ", 3, 4) = NONE");
        }
        after(fractions(59), "apply(0, 3, 58) = 59", "WRITTEN(59) = 59");
    }

    static void applyOverNought() {
        of("Promise 3: ZERO when b is 0 in a / b");
        String start = both(TOWER[2], "fraction(0, 1); apply(1, 3, 3); coordinate(3, 2); text(3)");
        after(start, "! apply(3, 0, 4) = ZERO", "! apply(3, 3, 4) = ZERO",
            "! apply(3, 4, 4) = ZERO", "! apply(3, 0, 5) = ZERO", "! apply(3, 5, 4) = ZERO");
        after(start, "apply(0, 3, 4) = 6", "apply(1, 3, 5) = 7", "apply(2, 3, 4) = 8",
            "WRITTEN(8) = 0", "apply(3, 4, 3) = 9", "WRITTEN(9) = 0");
        after(fractions(59), "! apply(3, 2, 1) = ZERO", "apply(3, 1, 2) = 59",
            "! apply(3, 2, 1) = NONE");
    }

    static void plainWhenFull() {
        of("Promise 4: NONE as apply()");
        after("", "! plain(0) = NONE");
        for (int e : new int[] {-1, 4, 5, 60, LEAST_INT, GREATEST_INT}) {
            after(TOWER[2], "! plain(" + e + ") = NONE");
        }
        after(TOWER[2], "plain(0) = 4", "WRITTEN(4) = 1/2", "plain(3) = 5", "WRITTEN(5) = 1/3*r2");
        after(fractions(59), "plain(4) = 59", "WRITTEN(59) = 1/3", "! plain(4) = NONE");
    }

    static void plainWide() {
        of("Promise 4: WIDE as apply()");
        after(both(TOWER[1], "fraction(1000000000000000, 1); apply(2, 2, 2); "
            + "apply(0, 3, 1); fraction(1, 1); apply(0, 4, 5)"), "plain(4) = 7",
            "WRITTEN(7) = 5" + many("0", 29) + "/4" + many("9", 59) + "-1/" + many("9", 59)
            + "8*r1", "! plain(6) = WIDE");
        String start = both(SIXTY, "fraction(3, 1); fraction(4, 1); apply(2, 15, 16); "
            + "apply(0, 20, 22)");
        after(both(start, "apply(3, 14, 20); apply(2, 24, 23)"), "plain(25) = 26",
            "WRITTEN(26) = 9" + many("0", 59) + "-6" + many("0", 59) + "*r1");
        after(both(start, "apply(3, 14, 21); apply(2, 24, 23)"), "! plain(25) = WIDE");
    }

    static void plainOfNought() {
        of("Promise 4: ArithmeticException: a is 0");
        String thrown = "throws.ArithmeticException";
        String start = both(TOWER[2], "fraction(0, 1); apply(1, 3, 3); coordinate(3, 2); text(3)");
        after(start, "! plain(4) = " + thrown, "! plain(5) = " + thrown, "plain(3) = 6",
            "! plain(4) = " + thrown, "told(1) = 7");
        after(fractions(59), "! plain(1) = " + thrown, "plain(2) = 59", "! plain(1) = NONE");
        after("fraction(0, -1)", "! plain(0) = " + thrown, "! plain(1) = NONE",
            "! plain(-1) = NONE");
    }

    static void rootOfNought() {
        of("Promise 5: The square root (0 or above): of 0 it is 0");
        for (int h = 0; h <= 4; h++) {
            int e = 2 * h;
            after(both(TOWER[h], "fraction(0, 1)"), "root(" + e + ") = " + (e + 1),
                "WRITTEN(" + (e + 1) + ") = 0", "told(0) = " + h);
        }
        after(both(TOWER[2], "apply(1, 3, 3)"), "root(4) = 5", "WRITTEN(5) = 0", "told(0) = 2");
    }

    static void rootIsNotBelowNought() {
        of("Promise 5: The square root (0 or above): of a square it is the one above 0");
        after(both(TOWER[1], "fraction(1, 1); apply(1, 2, 1); apply(2, 3, 3)"), "sign(3) = -1",
            "root(4) = 5", "WRITTEN(5) = -1+1*r1", "sign(5) = 1", "told(0) = 1");
        after(both(TOWER[4], "apply(1, 1, 7); apply(2, 8, 8)"), "root(9) = 10",
            "WRITTEN(10) = -1*r1+1*r4", "sign(10) = 1");
    }

    static void rootElements() {
        of("Promise 5: NONE when there is no such ELEMENT");
        after("", "! root(0) = NONE");
        for (int e : new int[] {-1, 4, 5, 60, LEAST_INT, GREATEST_INT}) {
            after(TOWER[2], "! root(" + e + ") = NONE");
        }
        after(TOWER[2], "root(0) = 4", "WRITTEN(4) = 1*r1", "root(3) = 5", "WRITTEN(5) = 1*r3");
    }

    static void rootWhenFull() {
        of("Promise 5: NONE when there are 60");
        after(fractions(59), "root(3) = 59", "told(0) = 1", "WRITTEN(59) = 1*r1",
            "! root(4) = NONE", "! root(3) = NONE", "told(0) = 1");
        after(fractions(60), "! root(3) = NONE", "! root(5) = NONE", "told(0) = 0");
    }

    static void rootBelowNought() {
        of("Promise 5: NEGATIVE when it is below 0");
        after("fraction(-1, 1); coordinate(0, 0); text(0)", "! root(0) = NEGATIVE", "told(0) = 0");
        after("fraction(-1, " + MAX + ")", "! root(0) = NEGATIVE");
        after(both(TOWER[2], "apply(1, 1, 3)"), "! root(4) = NEGATIVE", "told(0) = 2");
        after(both(TOWER[4], "fraction(-4, 1)"), "! root(8) = NEGATIVE");
        after(both(fractions(59), "sign(0)"), "! root(0) = NEGATIVE", "fraction(1, 1) = 59",
            "! root(0) = NONE");
        String near = both(TOWER[1], "fraction(47321, 33461); fraction(114243, 80782); "
            + "apply(1, 1, 2); apply(1, 1, 3)");
        after(near, "! root(5) = NEGATIVE", "root(4) = 6", "WRITTEN(6) = 1*r2",
            "! root(5) = NEGATIVE");
    }

    static void rootThatIsThere() {
        of("Promise 5: if it is no square of a number of THE TOWER: .. (a square joins nothing)");
        after("fraction(9, 4); root(0)", "WRITTEN(1) = 3/2", "told(0) = 0");
        after(both(TOWER[1], "fraction(1, 2); root(2)"), "WRITTEN(3) = 1/2*r1", "told(0) = 1");
        after(both(TOWER[2], "fraction(24, 1); root(4)"), "WRITTEN(5) = 2*r1*r2", "told(0) = 2");
        after(both(TOWER[4], "fraction(210, 1); root(8)"), "WRITTEN(9) = 1*r1*r2*r3*r4",
            "told(0) = 4");
        after(both(TOWER[2], "apply(2, 1, 3); root(4); fraction(8, 1); root(6)"),
            "WRITTEN(5) = 1*r3", "WRITTEN(7) = 2*r1", "told(0) = 3");
    }

    static void fifthRoot() {
        of("Promise 5: DEEP when there are 4 ROOTS");
        after(both(TOWER[4], "fraction(11, 1); coordinate(7, 8); text(7)"), "! root(8) = DEEP",
            "! root(7) = DEEP", "! root(1) = DEEP", "root(0) = 9", "root(6) = 10", "told(0) = 4");
        after("fraction(2, 1); root(0); root(1); root(2); root(3)", "told(0) = 4",
            "! root(4) = DEEP", "root(3) = 5", "WRITTEN(5) = 1*r4");
        String full = TOWER[4] + "; " + fractions(51);
        after(full, "told(1) = 59", "! root(7) = DEEP", "fraction(1, 1) = 59", "! root(7) = NONE");
    }

    static void newRoot() {
        of("Promise 5: it becomes the RADICAND of a new ROOT, which this ELEMENT is");
        for (int h = 0; h < 4; h++) {
            int e = 2 * h;
            after(both(TOWER[h], "fraction(13, 9)"), "root(" + e + ") = " + (e + 1),
                "told(0) = " + (h + 1), "WRITTEN(" + (e + 1) + ") = 1*r" + (h + 1),
                "radicand(" + (h + 1) + ", 0) = 1", "RESULT = 13/9");
        }
    }

    /** Elements 6 and 9 are r1 and r2, the roots of 2 and 3 times (op 2) or over (op 3) 10^29. */
    static final String FAR = "fraction(1000000000000000, 1); fraction(100000000000000, 1); "
        + "apply(2, 0, 1); apply(2, 2, 2); fraction(2, 1); apply(%d, 4, 3); root(5); "
        + "fraction(3, 1); apply(%d, 7, 3); root(8); ";

    static void rootWide() {
        of("Promise 5: WIDE");
        String small = String.format(FAR, 3, 3) + "fraction(600, 1); fraction(60000, 1); "
            + "coordinate(9, 2); text(9)";
        after(small, "told(0) = 2", "root(10) = 12", "WRITTEN(12) = 1" + many("0", 59) + "*r1*r2",
            "isSquare(11) = 1", "! root(11) = WIDE", "told(0) = 2", "told(1) = 13");
        String large = String.format(FAR, 2, 2) + "fraction(6, 100); fraction(6, 10000); "
            + "coordinate(9, 2); text(9)";
        after(large, "told(0) = 2", "root(10) = 12", "WRITTEN(12) = 1/1" + many("0", 59) + "*r1*r2",
            "isSquare(11) = 1", "! root(11) = WIDE", "told(0) = 2", "told(1) = 13");
    }

    // Promises 6 to 12

    /** A call of one element: below the first, the first, the last and one behind it. */
    static void elementEdges(String name, String second, String refusal, String first,
        String last) {
        String start = both(TOWER[2], "coordinate(3, 2); text(3)");
        after("", "! " + name + "(0" + second + ") = " + refusal,
            "! " + name + "(-1" + second + ") = " + refusal);
        after(start, name + "(0" + second + ") = " + first, name + "(3" + second + ") = " + last);
        for (int e : new int[] {-1, -2, 4, 5, 59, 60, LEAST_INT, GREATEST_INT}) {
            after(start, "! " + name + "(" + e + second + ") = " + refusal);
        }
    }

    static void isSquareEdges() {
        of("Promise 6: 1, 0; NONE when there is no such one");
        elementEdges("isSquare", "", "NONE", "1", "0");
        after(both(TOWER[1], "fraction(0, 1); fraction(-1, 1); fraction(-2, 1); apply(1, 1, 0)"),
            "isSquare(2) = 1", "isSquare(3) = 0", "isSquare(4) = 0", "isSquare(5) = 0",
            "isSquare(0) = 1", "isSquare(1) = 0", "told(0) = 1", "told(1) = 6");
        after(both(TOWER[4], "fraction(11, 1); fraction(210, 1)"), "isSquare(8) = 0",
            "isSquare(9) = 1", "isSquare(7) = 0", "told(0) = 4");
        after(fractions(60), "isSquare(0) = 0", "isSquare(1) = 1", "isSquare(3) = 0",
            "isSquare(5) = 1", "isSquare(59) = 0", "! isSquare(60) = NONE");
        after("fraction(2, 1)", "isSquare(0) = 0", "root(0) = 1", "isSquare(0) = 1");
    }

    static void signEdges() {
        of("Promise 7: -1, 0, 1; -2 when there is no such one");
        elementEdges("sign", "", "-2", "1", "1");
        after(both(TOWER[2], "fraction(0, 1); apply(1, 1, 3); apply(1, 3, 1); apply(1, 3, 3)"),
            "sign(4) = 0", "sign(5) = -1", "sign(6) = 1", "sign(7) = 0");
        after(SIXTY, "sign(12) = -1", "sign(13) = 1", "sign(18) = 1");
        after(fractions(60), "sign(0) = -1", "sign(1) = 0", "sign(59) = 1", "! sign(60) = -2");
    }

    static void compareEdges() {
        of("Promise 8: The sign of a - b; -2 when there is no such ELEMENT");
        elementEdges("compare", ", 0", "-2", "0", "-1");
        after(both(TOWER[2], "coordinate(3, 2); text(3)"), "compare(0, 3) = 1",
            "compare(3, 3) = 0");
        for (int e : new int[] {-1, -2, 4, 5, 59, 60, LEAST_INT, GREATEST_INT}) {
            after(TOWER[2], "! compare(0, " + e + ") = -2", "! compare(" + e + ", " + e + ") = -2");
        }
        after(SIXTY, "compare(10, 8) = 1", "compare(8, 10) = -1", "compare(13, 14) = -1",
            "compare(12, 12) = 0");
        after(fractions(60), "compare(59, 58) = 1", "compare(0, 1) = -1", "! compare(0, 60) = -2");
    }

    static void levelEdges() {
        of("Promise 9: The least LEVEL to which an ELEMENT belongs; "
            + "NONE when there is no such one");
        elementEdges("level", "", "NONE", "0", "2");
        after(both(TOWER[4], "apply(2, 7, 7); apply(1, 7, 7); apply(0, 7, 1); "
            + "apply(1, 10, 7); apply(2, 7, 3)"), "level(7) = 4", "level(8) = 0", "level(9) = 0",
            "level(10) = 4", "level(11) = 1", "level(12) = 4");
        after("fraction(1, 2)", "level(0) = 0", "! level(1) = NONE");
    }

    static void coordinateEdges() {
        of("Promise 10: NONE when there is no such ELEMENT, or COORDINATE");
        elementEdges("coordinate", ", 0", "NONE", "1", "1");
        for (int i : new int[] {-1, 4, 5, 16, 32, LEAST_INT, GREATEST_INT}) {
            after(both(TOWER[2], "coordinate(3, 2); text(3)"), "! coordinate(3, " + i + ") = NONE",
                "! coordinate(0, " + i + ") = NONE", "RESULT = 1");
        }
        after(TOWER[2], "coordinate(0, 0) = 1", "RESULT = 2", "coordinate(0, 3) = 1", "RESULT = 0",
            "coordinate(3, 2) = 1", "RESULT = 1", "! coordinate(4, 4) = NONE");
    }

    static void radicandEdges() {
        of("Promise 11: NONE when there is no such ROOT, or COORDINATE (of LEVEL k - 1)");
        for (int h = 0; h <= 4; h++) {
            after(both(TOWER[h], "fraction(9, 8); coordinate(" + 2 * h + ", 0)"),
                "! radicand(0, 0) = NONE", "! radicand(-1, 0) = NONE",
                "! radicand(" + (h + 1) + ", 0) = NONE", "! radicand(5, 0) = NONE");
            for (int k = 1; k <= h; k++) {
                int last = (1 << (k - 1)) - 1;
                String radicand = k == 4 ? "7" : k == 3 ? "5" : k == 2 ? "3" : "2";
                after(both(TOWER[h], "coordinate(1, 1)"), "radicand(" + k + ", 0) = 1",
                    "RESULT = " + radicand, "! radicand(" + k + ", -1) = NONE",
                    "! radicand(" + k + ", " + (last + 1) + ") = NONE",
                    "radicand(" + k + ", " + last + ") = 1", "RESULT = " + (k == 1 ? "2" : "0"));
            }
        }
        for (int w : new int[] {LEAST_INT, GREATEST_INT, 32, 33}) {
            after(TOWER[4], "! radicand(" + w + ", 0) = NONE", "! radicand(4, " + w + ") = NONE");
        }
    }

    static void radicandsWithRoots() {
        of("Promise 11: COORDINATE i of the RADICAND of ROOT k (1 to 4) results");
        after("fraction(2, 1); root(0); root(1); root(2); root(3)", "radicand(4, 4) = 1",
            "RESULT = 1", "radicand(4, 3) = 1", "RESULT = 0", "! radicand(4, 8) = NONE",
            "radicand(3, 2) = 1", "RESULT = 1", "! radicand(3, 4) = NONE", "radicand(2, 1) = 1",
            "RESULT = 1", "! radicand(2, 2) = NONE", "radicand(1, 0) = 1", "RESULT = 2",
            "! radicand(1, 1) = NONE");
    }

    static void degreeEdges() {
        of("Promise 12: the least d above 0; NONE when there is no such one");
        elementEdges("degree", "", "NONE", "1", "2");
        after("fraction(0, 1); fraction(-5, 3)", "degree(0) = 1", "degree(1) = 1",
            "! degree(2) = NONE");
        after(both(TOWER[4], "apply(0, 1, 3); apply(0, 8, 5); apply(0, 9, 7); "
            + "apply(2, 1, 7); apply(1, 7, 7)"), "degree(8) = 4", "degree(9) = 8",
            "degree(10) = 16", "degree(11) = 2", "degree(12) = 1");
    }

    // Promises 13 to 15

    static void equationPowers() {
        of("Promise 13: NONE when i is not 0 to d");
        String sums = both(TOWER[4], "fraction(0, 1); apply(0, 8, 1); apply(0, 9, 3); "
            + "apply(0, 10, 5); apply(0, 11, 7)");
        int d = 1;
        for (int a = 8; a <= 12; a++) {
            after(both(sums, "fraction(8, 9); coordinate(13, 0)"), "degree(" + a + ") = " + d,
                "! equation(" + a + ", -1) = NONE", "! equation(" + a + ", " + (d + 1) + ") = NONE",
                "RESULT = 8/9", "equation(" + a + ", 0) = 1", "equation(" + a + ", " + d + ") = 1",
                "RESULT = 1", "! equation(" + a + ", " + (d + 1) + ") = NONE", "RESULT = 1");
            d *= 2;
        }
        after("fraction(0, 1)", "equation(0, 0) = 1", "RESULT = 0", "equation(0, 1) = 1",
            "RESULT = 1", "! equation(0, 2) = NONE");
        for (int i : new int[] {17, 18, LEAST_INT, GREATEST_INT}) {
            after(sums, "! equation(12, " + i + ") = NONE");
        }
    }

    static void equationElements() {
        of("Promise 13: NONE when there is no such ELEMENT");
        elementEdges("equation", ", 0", "NONE", "1", "1");
        after(TOWER[2], "equation(0, 0) = 1", "RESULT = -2", "equation(3, 0) = 1", "RESULT = -3",
            "equation(3, 1) = 1", "RESULT = 0", "equation(3, 2) = 1", "RESULT = 1");
    }

    /**
     * Element 3 is the eighth root of 2; 8 is that times 9 10^49, 12 times 10^50, 14 over 9 10^49,
     * 19 over 11 10^49; 20 is 1/7, the result.
     */
    static final String EIGHTH = "fraction(2, 1); root(0); root(1); root(2); "
        + "fraction(900000000000000000, 1); fraction(10000000000000000, 1); apply(2, 4, 5); "
        + "apply(2, 6, 5); apply(2, 7, 3); fraction(1000000000000000000, 1); apply(2, 9, 5); "
        + "apply(2, 10, 5); apply(2, 11, 3); plain(7); apply(2, 13, 3); "
        + "fraction(1100000000000000000, 1); apply(2, 15, 5); apply(2, 16, 5); plain(17); "
        + "apply(2, 18, 3); fraction(1, 7); coordinate(20, 0)";

    static void equationWideTop() {
        of("Promise 13: WIDE when it would have more than 400 figures in its top");
        after(EIGHTH, "equation(8, 0) = 1", "result(1) = 400", "result(0) = -1", "result(2) = 1",
            "figure(0, 0) = 8", "figure(0, 7) = 2", "figure(0, 8) = 0", "figure(0, 399) = 0",
            "figure(0, 400) = NONE");
        after(EIGHTH, "! equation(12, 0) = WIDE", "equation(12, 1) = 1", "RESULT = 0",
            "equation(12, 8) = 1", "RESULT = 1", "! equation(12, 9) = NONE",
            "! equation(12, -1) = NONE");
        String shifted = both(EIGHTH, "fraction(1000000000, 1); apply(2, 11, 21); apply(0, 22, 8)");
        after(shifted, "! equation(23, 0) = WIDE", "! equation(23, 1) = WIDE",
            "equation(23, 2) = 1", "result(1) = 356", "! equation(23, 9) = NONE");
    }

    static void equationWideBottom() {
        of("Promise 13: WIDE when it would have more than 400 figures in its bottom");
        after(EIGHTH, "equation(14, 0) = 1", "result(2) = 400", "result(0) = -1", "result(1) = 1",
            "figure(1, 399) = 0", "figure(1, 400) = NONE", "figure(1, 0) = 2");
        after(EIGHTH, "! equation(19, 0) = WIDE", "equation(19, 4) = 1", "RESULT = 0");
    }

    static void resultStaysWhenWide() {
        of("Promise 13: WIDE .. (THE RESULT stays)");
        after(EIGHTH, "RESULT = 1/7", "equation(12, 0) = WIDE", "RESULT = 1/7",
            "equation(19, 0) = WIDE", "RESULT = 1/7", "equation(12, 0) = WIDE", "degree(12) = 8",
            "RESULT = 1/7");
    }

    static void cutElements() {
        of("Promise 14: NONE when there is no such ELEMENT");
        elementEdges("cut", ", 0", "NONE", "1", "1");
    }

    static void cutDigits() {
        of("Promise 14: NONE when digits is not 0 to 6");
        String start = both(TOWER[2], "coordinate(3, 2); text(3)");
        after(start, "cut(1, 0) = 1", "RESULT = 1", "cut(1, 1) = 1", "RESULT = 7/5",
            "cut(1, 5) = 1", "RESULT = 141421/100000", "cut(1, 6) = 1", "RESULT = 1414213/1000000");
        for (int digits : new int[] {-1, 7, 8, 9, 10, LEAST_INT, GREATEST_INT}) {
            after(start, "! cut(1, " + digits + ") = NONE", "! cut(0, " + digits + ") = NONE",
                "RESULT = 1");
        }
    }

    static void cutLimits() {
        of("Promise 14: NONE when it is not above -1000000 and below 1000000");
        for (int digits = 0; digits <= 6; digits++) {
            String start = "fraction(1000000, 1); fraction(-1000000, 1); fraction(1000001, 1); "
                + "fraction(-1000001, 1); fraction(999999, 1); fraction(-999999, 1); "
                + "fraction(2000001, 2); fraction(-2000001, 2)";
            after(start, "! cut(0, " + digits + ") = NONE", "! cut(1, " + digits + ") = NONE",
                "! cut(2, " + digits + ") = NONE", "! cut(3, " + digits + ") = NONE",
                "cut(4, " + digits + ") = 1", "RESULT = 999999", "cut(5, " + digits + ") = 1",
                "RESULT = -999999", "! cut(6, " + digits + ") = NONE",
                "! cut(7, " + digits + ") = NONE");
        }
        String in = "fraction(999999999999999999, 1000000000000); "
            + "fraction(-999999999999999999, 1000000000000)";
        after(in, "cut(0, 0) = 1", "RESULT = 999999", "cut(0, 6) = 1",
            "RESULT = 999999999999/1000000", "cut(1, 0) = 1", "RESULT = -1000000", "cut(1, 6) = 1",
            "RESULT = -1000000");
        String out = "fraction(1000000000000000001, 1000000000000); "
            + "fraction(-1000000000000000001, 1000000000000)";
        after(out, "! cut(0, 0) = NONE", "! cut(0, 6) = NONE", "! cut(1, 0) = NONE",
            "! cut(1, 6) = NONE");
        after(SIXTY, "! cut(4, 0) = NONE", "! cut(10, 6) = NONE", "! cut(12, 0) = NONE",
            "! cut(17, 3) = NONE");
    }

    /** 8 and 9 are the upper limit less and more some 10^-50, 10 and 11 the lower more and less. */
    static final String CLOSE = "fraction(2, 1); root(0); fraction(1, 10000000000000000); "
        + "apply(2, 2, 2); apply(2, 2, 3); apply(2, 4, 1); fraction(1000000, 1); "
        + "fraction(-1000000, 1); apply(1, 6, 5); apply(0, 6, 5); apply(0, 7, 5); apply(1, 7, 5); "
        + "fraction(0, 1); apply(1, 12, 5)";

    static void cutLimitsWithRoots() {
        of("Promise 14: above -1000000 and below 1000000, by very little");
        after(CLOSE, "cut(8, 0) = 1", "RESULT = 999999", "cut(8, 6) = 1",
            "RESULT = 999999999999/1000000", "! cut(9, 0) = NONE", "! cut(9, 6) = NONE",
            "cut(10, 0) = 1", "RESULT = -1000000", "cut(10, 6) = 1", "RESULT = -1000000",
            "! cut(11, 0) = NONE", "! cut(11, 6) = NONE");
        String whole = both(TOWER[1], "fraction(1000000, 1); apply(0, 2, 1); apply(1, 3, 1); "
            + "fraction(-1000000, 1); apply(1, 5, 1); apply(0, 6, 1)");
        after(whole, "! cut(4, 0) = NONE", "! cut(7, 0) = NONE", "! cut(7, 6) = NONE");
        after(both(TOWER[1], "fraction(-1000001, 1); apply(0, 2, 1); fraction(1000001, 1); "
            + "apply(1, 4, 1)"), "cut(3, 0) = 1", "RESULT = -1000000", "cut(3, 1) = 1",
            "RESULT = -4999998/5", "cut(5, 0) = 1", "RESULT = 999999");
    }

    static void cutIsAtMost() {
        of("Promise 14: the greatest whole multiple of 10^-digits that is at most an ELEMENT");
        after("fraction(-1, 2); fraction(1, 2); fraction(0, 1); fraction(-1, 1000000); "
            + "fraction(-1, 1000001)", "cut(0, 0) = 1", "RESULT = -1", "cut(0, 1) = 1",
            "RESULT = -1/2", "cut(1, 0) = 1", "RESULT = 0", "cut(2, 0) = 1", "RESULT = 0",
            "cut(2, 6) = 1", "RESULT = 0", "cut(3, 6) = 1", "RESULT = -1/1000000", "cut(3, 5) = 1",
            "RESULT = -1/100000", "cut(4, 6) = 1", "RESULT = -1/1000000", "cut(4, 0) = 1",
            "RESULT = -1");
        after(CLOSE, "cut(5, 0) = 1", "RESULT = 0", "cut(5, 6) = 1", "RESULT = 0", "cut(13, 0) = 1",
            "RESULT = -1", "cut(13, 6) = 1", "RESULT = -1/1000000");
    }

    /** r1 is the root of 6; 4 is 5 + 2 r1, 5 is 5 - 2 r1, 8 is -5 - 2 r1, 10 r2, 12 is 5 + r1. */
    static final String NESTED = "fraction(6, 1); root(0); fraction(5, 1); apply(0, 1, 1); "
        + "apply(0, 2, 3); apply(1, 2, 3); fraction(0, 1); fraction(-5, 1); apply(1, 7, 3); "
        + "fraction(5, 1); root(9); apply(0, 10, 1); apply(0, 2, 1)";

    static void denestElements() {
        of("Promise 15: NONE when there is no such ELEMENT");
        elementEdges("denest", ", 0", "NONE", "1", "NONE");
    }

    static void denestWhich() {
        of("Promise 15: NONE when there is no such which");
        after(NESTED, "denest(4, 0) = 1", "RESULT = 3", "denest(4, 1) = 1", "RESULT = 2");
        for (int which : new int[] {-1, 2, 3, LEAST_INT, GREATEST_INT}) {
            after(both(NESTED, "denest(4, 0); text(4)"), "! denest(4, " + which + ") = NONE",
                "! denest(2, " + which + ") = NONE", "RESULT = 3");
        }
    }

    static void denestLevels() {
        of("Promise 15: NONE when it is of another LEVEL");
        after(NESTED, "level(2) = 0", "denest(2, 0) = 1", "RESULT = 5", "denest(2, 1) = 1",
            "RESULT = 0");
        after(NESTED, "level(4) = 1", "denest(4, 0) = 1", "RESULT = 3", "level(10) = 2",
            "! denest(10, 0) = NONE", "! denest(10, 1) = NONE", "level(11) = 2",
            "! denest(11, 0) = NONE", "! denest(11, 1) = NONE");
        String second = both(NESTED, "apply(0, 10, 10); fraction(6, 1); apply(0, 14, 13)");
        after(second, "level(15) = 2", "! denest(15, 0) = NONE", "! denest(15, 1) = NONE");
        after("fraction(5, 4)", "denest(0, 0) = 1", "RESULT = 5/4", "denest(0, 1) = 1",
            "RESULT = 0");
        after(both(TOWER[4], "apply(0, 7, 0)"), "! denest(7, 0) = NONE", "! denest(8, 1) = NONE");
    }

    static void denestSigns() {
        of("Promise 15: u at least v, 0 or above; sum (y 0 or above) or difference (y below 0)");
        after(NESTED, "denest(5, 0) = 1", "RESULT = 3", "denest(5, 1) = 1", "RESULT = 2",
            "denest(6, 0) = 1", "RESULT = 0", "denest(6, 1) = 1", "RESULT = 0");
        after(both(NESTED, "denest(4, 0)"), "! denest(7, 0) = NONE", "! denest(7, 1) = NONE",
            "! denest(8, 0) = NONE", "! denest(8, 1) = NONE", "RESULT = 3");
    }

    static void denestOfNone() {
        of("Promise 15: NONE when there are none");
        after(both(NESTED, "denest(4, 0)"), "! denest(1, 0) = NONE", "! denest(1, 1) = NONE",
            "! denest(3, 0) = NONE", "! denest(12, 0) = NONE", "! denest(12, 1) = NONE",
            "RESULT = 3");
        after(both(TOWER[1], "fraction(1, 1); apply(0, 1, 2); apply(1, 2, 1)"),
            "! denest(3, 0) = NONE", "! denest(4, 0) = NONE", "! denest(4, 1) = NONE");
    }

    /** Writes a start that makes wide numbers, and counts its elements. */
    static final class Maker {
        static final int PIECE = 18;
        String start = "fraction(1" + many("0", PIECE) + ", 1)";
        int count = 1;

        private int made(String call) {
            start = both(start, call);
            count++;
            return count - 1;
        }

        int fraction(String up) {
            return made("fraction(" + up + ", 1)");
        }

        int apply(int op, int a, int b) {
            return made("apply(" + op + ", " + a + ", " + b + ")");
        }

        int root(int a) {
            return made("root(" + a + ")");
        }

        int number(BigInteger n) {
            String figures = n.toString();
            int end = (figures.length() - 1) % PIECE + 1;
            int e = fraction(figures.substring(0, end));
            for (; end < figures.length(); end += PIECE) {
                int raised = apply(2, e, 0);
                e = apply(0, raised, fraction(figures.substring(end, end + PIECE)));
            }
            return e;
        }
    }

    static String lowest(BigInteger up, BigInteger down) {
        BigInteger common = up.gcd(down);
        return up.divide(common) + "/" + down.divide(common);
    }

    /**
     * With 2 m m + l l = s the roots of 2 m m / s and of l l / s have 1 + 2 m l / s times the root
     * of 2 as the square of their sum. If a divisor of m and one of s are taken into r1, that
     * element is not WIDE, though s has many more than 60 figures.
     */
    static void denestBeyondSixty() {
        of("Promise 15: results u, v (WIDE is not named here)");
        BigInteger c = new BigInteger("31415926535897");
        BigInteger d = new BigInteger("27182818284591");
        BigInteger e = new BigInteger("14142135623730950488016887243");
        BigInteger g = new BigInteger("17320508075688772935274463415");
        BigInteger h = e.subtract(c.multiply(g).multiply(d.modInverse(e)).mod(e));
        BigInteger two = BigInteger.valueOf(2);
        BigInteger l = d.multiply(g).subtract(two.multiply(c).multiply(h)).abs();
        BigInteger m = d.multiply(h).add(c.multiply(g));
        BigInteger b = d.pow(2).add(two.multiply(c.pow(2)));
        BigInteger s = two.multiply(m.pow(2)).add(l.pow(2));
        Maker maker = new Maker();
        int outside = maker.apply(3, maker.number(e), maker.number(b));
        int square = maker.apply(2, outside, outside);
        int r1 = maker.root(maker.apply(2, square, maker.fraction("2")));
        int up = maker.number(two.multiply(l).multiply(m.divide(e)));
        int y = maker.apply(3, up, maker.number(s.divide(b)));
        int part = maker.apply(2, y, r1);
        int one = maker.fraction("1");
        int sum = maker.apply(0, one, part);
        int difference = maker.apply(1, one, part);
        String first = lowest(two.multiply(m.pow(2)), s);
        String second = lowest(l.pow(2), s);
        boolean firstIsMore = two.multiply(m.pow(2)).compareTo(l.pow(2)) > 0;
        for (int a = sum; a <= difference; a++) {
            after(maker.start, "told(0) = 1", "told(1) = " + (difference + 1),
                "level(" + a + ") = 1", "denest(" + a + ", 0) = 1",
                "RESULT = " + (firstIsMore ? first : second),
                "denest(" + a + ", 1) = 1", "RESULT = " + (firstIsMore ? second : first));
        }
        if (first.length() < 160 || second.length() < 160) {
            report("the numbers of this test are too short");
        }
    }

    // Promises 16 to 21

    static void textSigns() {
        of("Promise 16: + (not for the first) or -, its top without sign");
        after(both(TOWER[2], "apply(0, 1, 3); apply(1, 1, 3); apply(1, 3, 1); "
            + "apply(1, 6, 3); apply(0, 0, 5)"), "WRITTEN(1) = 1*r1", "WRITTEN(4) = 1*r1+1*r2",
            "WRITTEN(5) = 1*r1-1*r2", "WRITTEN(6) = -1*r1+1*r2", "WRITTEN(7) = -1*r1",
            "WRITTEN(8) = 2+1*r1-1*r2");
    }

    static void textBottoms() {
        of("Promise 16: / and its bottom if that is not 1");
        after(both(TOWER[1], "fraction(-3, 1); fraction(-3, 2); apply(3, 1, 2); "
            + "apply(0, 3, 4); fraction(10, 5)"), "WRITTEN(2) = -3", "WRITTEN(3) = -3/2",
            "WRITTEN(4) = -1/3*r1", "WRITTEN(5) = -3/2-1/3*r1", "WRITTEN(6) = 2");
    }

    static void textRoots() {
        of("Promise 16: for each of its ROOTS *r and the ROOT's number");
        after(both(TOWER[4], "apply(2, 1, 3); apply(2, 5, 7); apply(2, 8, 9); apply(0, 10, 0)"),
            "WRITTEN(0) = 2", "WRITTEN(8) = 1*r1*r2", "WRITTEN(9) = 1*r3*r4",
            "WRITTEN(10) = 1*r1*r2*r3*r4", "WRITTEN(11) = 2+1*r1*r2*r3*r4");
    }

    static void textOfNought() {
        of("Promise 16: 0 alone if all are 0");
        after("fraction(0, -7)", "text(0) = 1", "WRITTEN(0) = 0");
        after(both(TOWER[4], "apply(1, 7, 7); fraction(0, 1); apply(2, 9, 7)"), "WRITTEN(8) = 0",
            "WRITTEN(9) = 0", "WRITTEN(10) = 0", "WRITTEN(7) = 1*r4");
    }

    static void textElements() {
        of("Promise 16: How many letters; NONE when there is no such one");
        elementEdges("text", "", "NONE", "1", "4");
        String sums = both(TOWER[4], "fraction(1, 1); apply(0, 8, 1); apply(0, 8, 3); "
            + "apply(0, 8, 5); apply(0, 8, 7); apply(2, 9, 10); apply(2, 13, 11); "
            + "apply(2, 14, 12)");
        after(sums, "text(15) = " + (1 + 15 * 2 + 8 * 4 * 3), "letter(126) = 52",
            "! letter(127) = " + THROWN);
        String four = SIXTY.substring(0, SIXTY.indexOf("; apply(2, 10, 16)"));
        String all = four + "; fraction(3, 1); root(17); fraction(5, 1); root(19); fraction(7, 1); "
            + "root(21); apply(0, 5, 16); apply(0, 5, 18); apply(0, 5, 20); apply(0, 5, 22); "
            + "apply(2, 23, 24); apply(2, 27, 25); apply(2, 28, 26); apply(1, 10, 5); "
            + "apply(3, 30, 10); fraction(0, 1); apply(1, 32, 31); apply(2, 33, 29)";
        int length = 16 * (1 + 60 + 1 + 60) + 8 * 4 * 3;
        after(all, "told(0) = 4", "text(34) = " + length, "letter(" + (length - 1) + ") = 52",
            "! letter(" + length + ") = " + THROWN, "letter(0) = 45", "letter(60) = 56",
            "letter(61) = 47");
    }

    static void letterBeforeText() {
        of("Promise 17: ArrayIndexOutOfBoundsException before any text");
        for (String start : new String[] {"", TOWER[2], fractions(60)}) {
            after(start, "! letter(0) = " + THROWN, "! letter(-1) = " + THROWN,
                "! letter(1) = " + THROWN, "! text(60) = NONE", "! letter(0) = " + THROWN,
                "! text(-1) = NONE", "! letter(0) = " + THROWN);
        }
    }

    static void letterBehindNone() {
        of("Promise 17: Letter i of the latest text() that was not NONE");
        after(both(TOWER[2], "text(3)"), "TEXT = 1*r2", "! text(4) = NONE", "TEXT = 1*r2",
            "! text(-1) = NONE", "TEXT = 1*r2", "text(0) = 1", "TEXT = 2", "! text(99) = NONE",
            "TEXT = 2", "! letter(1) = " + THROWN);
        after(both(TOWER[2], "text(3)"), "root(3) = 4", "TEXT = 1*r2", "fraction(0, 1) = 5",
            "text(5) = 1", "TEXT = 0", "cut(3, 2) = 1", "TEXT = 0");
    }

    static void letterPlaces() {
        of("Promise 17: ArrayIndexOutOfBoundsException: there is none such");
        String start = both(TOWER[2], "fraction(-5, 12); apply(0, 4, 3); text(5); "
            + "coordinate(4, 0)");
        String text = "-5/12+1*r2";
        for (int i = 0; i < text.length(); i++) {
            after(start, "letter(" + i + ") = " + (int) text.charAt(i));
        }
        for (int i : new int[] {-1, -2, 10, 11, 2239, 2240, 2241, LEAST_INT, GREATEST_INT}) {
            after(start, "! letter(" + i + ") = " + THROWN);
        }
        after("fraction(7, 1); text(0)", "letter(0) = 55", "! letter(1) = " + THROWN,
            "! letter(-1) = " + THROWN);
    }

    static void resultWhat() {
        of("Promise 18: its sign (what = 0), how many figures its top has, its bottom; "
            + "-2 for another what");
        String start = "fraction(-12345, 67); coordinate(0, 0)";
        after(start, "result(0) = -1", "result(1) = 5", "result(2) = 2");
        for (int what : new int[] {-1, 3, 4, LEAST_INT, GREATEST_INT}) {
            after(start, "! result(" + what + ") = -2");
            after("", "! result(" + what + ") = -2");
        }
    }

    static void resultOfNought() {
        of("Promise 18: 0 has one");
        after("", "result(0) = 0", "result(1) = 1", "result(2) = 1");
        after("fraction(12, 34); fraction(0, 9); coordinate(0, 0); coordinate(1, 0)",
            "result(0) = 0", "result(1) = 1", "result(2) = 1");
    }

    static void resultSizes() {
        of("Promise 18: how many figures its top has, without sign");
        for (int n = 1; n <= 18; n++) {
            String nines = many("9", n);
            String ten = "1" + many("0", n);
            after("fraction(-" + nines + ", 1); fraction(" + ten + ", 1); fraction(1, "
                + nines + "); fraction(-1, " + ten + ")", "coordinate(0, 0) = 1", "result(0) = -1",
                "result(1) = " + n, "coordinate(1, 0) = 1", "result(0) = 1",
                "result(1) = " + (n + 1), "result(2) = 1", "coordinate(2, 0) = 1", "result(1) = 1",
                "result(2) = " + (n == 1 ? 1 : n), "coordinate(3, 0) = 1",
                "result(2) = " + (n + 1));
        }
    }

    static void figurePlaces() {
        of("Promise 19: Figure i (from the highest); NONE when there is none such");
        String start = "fraction(-" + MAX + ", 1000000000); coordinate(0, 0); text(0)";
        String top = MAX;
        for (int i = 0; i < top.length(); i++) {
            after(start, "figure(0, " + i + ") = " + top.charAt(i));
        }
        for (int i = 0; i < 10; i++) {
            after(start, "figure(1, " + i + ") = " + (i == 0 ? 1 : 0));
        }
        after(start, "! figure(0, -1) = NONE", "! figure(0, 19) = NONE", "! figure(0, 20) = NONE",
            "! figure(1, -1) = NONE", "! figure(1, 10) = NONE", "! figure(1, 11) = NONE");
        for (int i : new int[] {LEAST_INT, GREATEST_INT, 400, 401, 576, 577}) {
            after(start, "! figure(0, " + i + ") = NONE", "! figure(1, " + i + ") = NONE");
        }
    }

    static void figureSides() {
        of("Promise 19: THE RESULT's top (side = 0), bottom (1); NONE when there is none such");
        String start = "fraction(3, 7); coordinate(0, 0); text(0)";
        after(start, "figure(0, 0) = 3", "figure(1, 0) = 7");
        for (int side : new int[] {-1, 2, 3, LEAST_INT, GREATEST_INT}) {
            after(start, "! figure(" + side + ", 0) = NONE");
        }
    }

    static void figureOfNought() {
        of("Promise 19: figures of 0");
        after("", "figure(0, 0) = 0", "! figure(0, 1) = NONE", "figure(1, 0) = 1",
            "! figure(1, 1) = NONE", "! figure(0, -1) = NONE", "! figure(2, 0) = NONE");
        after("fraction(987, 654); fraction(0, 3); coordinate(0, 0); coordinate(1, 0)",
            "figure(0, 0) = 0", "! figure(0, 1) = NONE", "figure(1, 0) = 1",
            "! figure(1, 1) = NONE");
    }

    static void toldWhat() {
        of("Promise 20: ROOTS (what = 0), ELEMENTS (1). NONE: another what");
        after("", "told(0) = 0", "told(1) = 0");
        after(TOWER[4], "told(0) = 4", "told(1) = 8");
        after(fractions(60), "told(0) = 0", "told(1) = 60");
        for (int what : new int[] {-1, 2, 3, LEAST_INT, GREATEST_INT}) {
            after(TOWER[1], "! told(" + what + ") = NONE");
        }
    }

    /** An object that was cleared must be as a new one, and go on as one. */
    static void dueAsAtFirst(String used) {
        String cleared = both(used, "clear()");
        List<String> first = everything("");
        List<String> got = whole(cleared);
        if (!got.equals(first)) {
            report("after " + cleared + ": " + got + ", due is " + first);
        }
        String again = both(TOWER[4], "apply(0, 1, 7); equation(8, 0); text(8)");
        List<String> due = everything(again);
        List<String> gone = whole(both(cleared, again));
        if (!gone.equals(due)) {
            report("after " + cleared + " and " + again + ": " + gone + ", due is " + due);
        }
        after(cleared, "told(0) = 0", "told(1) = 0", "RESULT = 0", "result(2) = 1",
            "! letter(0) = " + THROWN, "! sign(0) = -2", "! radicand(1, 0) = NONE", "clear() = 0");
        after(both(cleared, fractions(59)), "fraction(1, 1) = 59", "! fraction(1, 1) = NONE",
            "clear() = 60");
    }

    static void clearOfEmpty() {
        of("Promise 21: clear of an empty object");
        after("", "clear() = 0", "clear() = 0", "told(1) = 0");
        dueAsAtFirst("");
    }

    static void clearOfFull() {
        of("Promise 21: clear of a full object");
        after(fractions(60), "clear() = 60", "clear() = 0", "fraction(1, 1) = 0");
        after(fractions(59), "clear() = 59");
        after(both(TOWER[4], fractions(52)), "clear() = 60", "told(0) = 0");
        dueAsAtFirst(fractions(60));
        dueAsAtFirst(both(TOWER[4], fractions(52)));
    }

    static void clearOfUsed() {
        of("Promise 21: All as at first. Answers how many ELEMENTS there were");
        after(TOWER[4], "clear() = 8", "fraction(9, 1) = 0", "root(0) = 1", "told(0) = 0",
            "clear() = 2");
        after(both(TOWER[4], "fraction(11, 1)"), "! root(8) = DEEP", "clear() = 9",
            "fraction(11, 1) = 0", "root(0) = 1", "WRITTEN(1) = 1*r1", "told(0) = 1");
        dueAsAtFirst(both(TOWER[4], "text(7); equation(7, 0); degree(5); cut(3, 4); "
            + "coordinate(7, 8)"));
        dueAsAtFirst(both(SIXTY, "text(17); equation(17, 0)"));
        dueAsAtFirst(both(EIGHTH, "equation(12, 0); equation(8, 0); text(8)"));
    }

    // Every refused call changes nothing

    static final String[] KINDS = {
        "fraction -1", "fraction -2", "apply -1", "apply -2", "apply -5", "plain -1", "plain -5",
        "plain throws.ArithmeticException", "root -1", "root -3", "root -4", "root -5",
        "isSquare -1", "sign -2", "compare -2", "level -1", "coordinate -1", "radicand -1",
        "degree -1", "equation -1", "equation -5", "cut -1", "denest -1", "text -1",
        "letter " + THROWN, "result -2", "figure -1", "told -1",
    };
    static final String[] ONES = {
        "plain", "root", "isSquare", "sign", "level", "degree", "text", "letter", "result", "told",
    };
    static final String[] TWOS = {
        "compare", "coordinate", "radicand", "equation", "cut", "denest", "figure",
    };

    static List<String> callsAtEdges(int elements) {
        List<String> calls = new ArrayList<>();
        int last = elements - 1;
        int[] firsts = {-1, 0, 1, 2, last - 1, last, elements, LEAST_INT, GREATEST_INT};
        int[] seconds = {-1, 0, 1, 2, 6, 7, 16, 17, last, elements};
        calls.add("fraction(1, 0)");
        calls.add("fraction(1, 1)");
        for (int a : firsts) {
            for (String name : ONES) {
                calls.add(name + "(" + a + ")");
            }
            for (int b : seconds) {
                for (String name : TWOS) {
                    calls.add(name + "(" + a + ", " + b + ")");
                }
                for (int op = -1; op <= 4; op++) {
                    calls.add("apply(" + op + ", " + a + ", " + b + ")");
                }
            }
        }
        return calls;
    }

    static boolean isRefusal(String call, String answer) {
        if (call.startsWith("sign") || call.startsWith("compare") || call.startsWith("result")) {
            return answer.equals("-2");
        }
        return answer.startsWith("-") || answer.contains("throws");
    }

    static void refusalsChangeNothing() {
        of("A call that is refused changes nothing");
        TreeSet<String> kinds = new TreeSet<>();
        String marked = "; text(1); equation(1, 0)";
        String[] starts = {
            "",
            TOWER[1] + "; fraction(0, 1); fraction(-1, 2)" + marked,
            TOWER[4] + "; fraction(0, 1); fraction(11, 1); fraction(-11, 1)" + marked,
            fractions(60) + marked,
            SIXTY + "; text(17); equation(17, 0)",
            EIGHTH.replace("; coordinate(20, 0)", "; apply(0, 8, 12); apply(0, 4, 12)") + marked,
            String.format(FAR, 3, 3) + "fraction(600, 1); fraction(60000, 1)" + marked,
        };
        for (String start : starts) {
            int elements = Integer.parseInt(new Run(start).answer("told(1)"));
            for (String call : callsAtEdges(elements)) {
                String answer = new Run(start).answer(call);
                if (isRefusal(call, answer)) {
                    kinds.add(call.substring(0, call.indexOf('(')) + " " + answer);
                    rows++;
                    dueUnchanged(start, call);
                }
            }
        }
        for (String kind : KINDS) {
            if (!kinds.remove(kind)) {
                report("no call was refused so: " + kind);
            }
        }
        if (!kinds.isEmpty()) {
            report("calls were refused as the document does not say: " + kinds);
        }
    }

    static void terms() {
        fractionsAreLowest();
        rootsAreAtMostFour();
        rootsArePositive();
        coordinatesAreTwoToTheHeight();
        coordinatesStandWithRoots();
        elementsAreAtMostSixty();
        elementsStayWhenItGrows();
        resultIsNoughtAtFirst();
        resultingAnswersOne();
        onlyResultingCallsMakeIt();
        wideTops();
        wideBottoms();
        theReckoningIsNotAsked();
        theFirstRefusalIsAnswered();
        refusalsChangeNothing();
    }

    static void promises1To5() {
        newObject();
        fractionNumbers();
        fractionWhenFull();
        fractionOverNought();
        applyOps();
        applyElements();
        applyWhenFull();
        applyOverNought();
        plainWhenFull();
        plainWide();
        plainOfNought();
        rootOfNought();
        rootIsNotBelowNought();
        rootElements();
        rootWhenFull();
        rootBelowNought();
        rootThatIsThere();
        fifthRoot();
        newRoot();
        rootWide();
    }

    static void promises6To15() {
        isSquareEdges();
        signEdges();
        compareEdges();
        levelEdges();
        coordinateEdges();
        radicandEdges();
        radicandsWithRoots();
        degreeEdges();
        equationPowers();
        equationElements();
        equationWideTop();
        equationWideBottom();
        resultStaysWhenWide();
        cutElements();
        cutDigits();
        cutLimits();
        cutLimitsWithRoots();
        cutIsAtMost();
        denestElements();
        denestWhich();
        denestLevels();
        denestSigns();
        denestOfNone();
        denestBeyondSixty();
    }

    static void promises16To21() {
        textSigns();
        textBottoms();
        textRoots();
        textOfNought();
        textElements();
        letterBeforeText();
        letterBehindNone();
        letterPlaces();
        resultWhat();
        resultOfNought();
        resultSizes();
        figurePlaces();
        figureSides();
        figureOfNought();
        toldWhat();
        clearOfEmpty();
        clearOfFull();
        clearOfUsed();
    }

    public static void main(String[] args) {
        terms();
        promises1To5();
        promises6To15();
        promises16To21();
        System.out.println(tests + " sentences, " + rows + " rows, " + wrong + " not as due");
        if (wrong != 0) {
            System.exit(1);
        }
    }
}
