import java.lang.reflect.Constructor;
import java.lang.reflect.Field;
import java.lang.reflect.Method;
import java.math.BigInteger;
import java.util.Random;

/**
 * The whole numbers inside the class beside BigInteger, with limbs that bring out the rare turns of
 * a long division and of a common divisor. Argument: how many rounds.
 */
public final class WholeNumbersTest {
    static final BigInteger BASE = BigInteger.valueOf(1000000000);
    static final Random random = new Random(5);

    static int wrong = 0;
    static Class<?> kind;
    static Object numbers;
    static Field cell;
    static Field top;

    static int call(String name, int... arguments) throws Exception {
        Class<?>[] types = new Class<?>[arguments.length];
        Object[] values = new Object[arguments.length];
        for (int i = 0; i < arguments.length; i++) {
            types[i] = int.class;
            values[i] = arguments[i];
        }
        Method method = kind.getDeclaredMethod(name, types);
        method.setAccessible(true);
        Object answer = method.invoke(numbers, values);
        return answer instanceof Integer ? (Integer) answer : 0;
    }

    static int put(BigInteger value) throws Exception {
        int n = 0;
        int[] limbs = new int[400];
        for (BigInteger a = value.abs(); a.signum() > 0; a = a.divide(BASE)) {
            limbs[n] = a.mod(BASE).intValue();
            n++;
        }
        call("room", n + 1);
        int p = top.getInt(numbers);
        int[] cells = (int[]) cell.get(numbers);
        cells[p] = 2 * n + (value.signum() < 0 ? 1 : 0);
        System.arraycopy(limbs, 0, cells, p + 1, n);
        top.setInt(numbers, p + 1 + n);
        return p;
    }

    static BigInteger get(int p) throws Exception {
        int[] cells = (int[]) cell.get(numbers);
        int n = cells[p] >> 1;
        BigInteger value = BigInteger.ZERO;
        for (int i = n; i > 0; i--) {
            due("limb within the base", cells[p + i] >= 0 && cells[p + i] < 1000000000, true);
            value = value.multiply(BASE).add(BigInteger.valueOf(cells[p + i]));
        }
        due("no nought in front", n > 0 ? cells[p + n] != 0 : cells[p] == 0, true);
        return (cells[p] & 1) == 1 ? value.negate() : value;
    }

    static void due(String what, Object got, Object want) {
        if (!got.equals(want)) {
            wrong++;
            if (wrong < 20) {
                System.out.println(what + " answered " + got + ", due is " + want);
            }
        }
    }

    static BigInteger any(int most) {
        int n = random.nextInt(most + 1);
        int style = random.nextInt(4);
        BigInteger value = BigInteger.ZERO;
        for (int i = 0; i < n; i++) {
            int limb = random.nextInt(1000000000);
            int s = style == 3 ? random.nextInt(3) : style;
            if (s == 1) {
                limb = random.nextBoolean() ? 999999999 - random.nextInt(2) : 0;
            } else if (s == 2) {
                limb = random.nextInt(4) == 0 ? 499999999 + random.nextInt(3) : random.nextInt(3);
            }
            value = value.multiply(BASE).add(BigInteger.valueOf(limb));
        }
        return random.nextBoolean() ? value : value.negate();
    }

    /** Looks at one number, which has to be all that was put on top of an address. */
    static void dueAlone(String what, int start, int p, BigInteger want) throws Exception {
        due(what, get(p), want);
        due(what + " at its place", p, start);
        due(what + " alone on top", top.getInt(numbers), call("next", p));
        top.setInt(numbers, start);
    }

    static void round(int most) throws Exception {
        BigInteger a = any(most);
        BigInteger b = any(most);
        if (random.nextInt(4) == 0) {
            BigInteger common = any(most);
            a = a.multiply(common);
            b = b.multiply(common);
        }
        if (random.nextInt(6) == 0) {
            a = b.multiply(any(most)).add(BigInteger.valueOf(random.nextInt(3) - 1));
        }
        int p = put(a);
        int q = put(b);
        int start = top.getInt(numbers);
        dueAlone("product", start, call("times", p, q), a.multiply(b));
        dueAlone("sum", start, call("sum", p, q, 1), a.add(b));
        dueAlone("difference", start, call("sum", p, q, -1), a.subtract(b));
        dueAlone("divisor", start, call("divisor", p, q), a.gcd(b));
        due("order", call("sizeOrder", p, q), a.abs().compareTo(b.abs()));
        due("figures", call("figures", p), a.abs().toString().length());
        if (b.signum() != 0) {
            int quotient = call("divided", p, q);
            due("quotient", get(quotient), a.divide(b));
            due("rest", get(call("next", quotient)), a.remainder(b));
            top.setInt(numbers, start);
        }
        if (b.signum() > 0) {
            BigInteger[] parts = a.divideAndRemainder(b);
            dueAlone("floor", start, call("floor", p, q),
                parts[1].signum() < 0 ? parts[0].subtract(BigInteger.ONE) : parts[0]);
        }
        roots(a.abs());
    }

    static void roots(BigInteger a) throws Exception {
        BigInteger b = a;
        if (random.nextInt(3) == 0) {
            b = a.multiply(a).add(BigInteger.valueOf(random.nextInt(3) - 1)).abs();
        }
        int p = put(b);
        int start = top.getInt(numbers);
        BigInteger root = b.sqrt();
        dueAlone("root", start, call("floorRoot", p), root);
        boolean exact = root.multiply(root).equals(b);
        due("a square", call("exactRoot", p) >= 0, exact);
    }

    public static void main(String[] args) throws Exception {
        kind = Class.forName("RootTowers$Numbers");
        Constructor<?> constructor = kind.getDeclaredConstructor();
        constructor.setAccessible(true);
        numbers = constructor.newInstance();
        cell = kind.getDeclaredField("cell");
        top = kind.getDeclaredField("top");
        cell.setAccessible(true);
        top.setAccessible(true);
        call("reset");
        int start = top.getInt(numbers);
        int rounds = args.length > 0 ? Integer.parseInt(args[0]) : 40000;
        for (int i = 0; i < rounds; i++) {
            top.setInt(numbers, start);
            round(i % 50 == 0 ? 60 : i % 7 == 0 ? 20 : 6);
        }
        System.out.println(rounds + " rounds, " + wrong + " wrong");
        if (wrong != 0) {
            System.exit(1);
        }
    }
}
