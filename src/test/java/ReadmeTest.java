import java.io.IOException;
import java.lang.reflect.InvocationTargetException;
import java.lang.reflect.Method;
import java.lang.reflect.Modifier;
import java.nio.charset.StandardCharsets;
import java.nio.file.Files;
import java.nio.file.Paths;
import java.util.ArrayList;
import java.util.List;
import java.util.TreeSet;
import java.util.regex.Matcher;
import java.util.regex.Pattern;

/** What README.md says: its run answers as its comments tell, and its table has each call. */
public final class ReadmeTest {
    static final String BEGINS = "RootTowers x = new RootTowers();";
    static final Pattern ROW = Pattern.compile("x\\.(\\w+)\\((.*)\\); +// (\\S+?)((:| ).*)?");
    static final Pattern RESULT = Pattern.compile("THE RESULT is (-?\\d+(/\\d+)?)(,.*)?$");
    static final Pattern TEXT = Pattern.compile("THE TEXT is (\\S+)$");

    static int wrong = 0;
    static RootTowers x = new RootTowers();

    static void due(String what, Object got, Object want) {
        if (!got.equals(want)) {
            wrong++;
            System.out.println("README.md, " + what + ": " + got + ", it says " + want);
        }
    }

    static Method methodOf(String name) {
        for (Method m : RootTowers.class.getDeclaredMethods()) {
            if (m.getName().equals(name) && Modifier.isPublic(m.getModifiers())) {
                return m;
            }
        }
        throw new IllegalStateException("no call " + name);
    }

    static Object[] argumentsOf(Method m, String inside) {
        String[] parts = inside.isEmpty() ? new String[0] : inside.split(", ");
        Object[] all = new Object[parts.length];
        for (int i = 0; i < all.length; i++) {
            boolean isLong = m.getParameterTypes()[i] == long.class;
            all[i] = isLong ? (Object) Long.valueOf(parts[i]) : (Object) Integer.valueOf(parts[i]);
        }
        return all;
    }

    static String answer(String name, String inside) throws IllegalAccessException {
        Method m = methodOf(name);
        try {
            return String.valueOf(m.invoke(x, argumentsOf(m, inside)));
        } catch (InvocationTargetException e) {
            return "throws " + e.getCause().getClass().getSimpleName();
        }
    }

    static String side(int side) {
        StringBuilder s = new StringBuilder();
        for (int i = 0; x.figure(side, i) != RootTowers.NONE; i++) {
            s.append(x.figure(side, i));
        }
        return s.toString();
    }

    static String result() {
        String bottom = side(1);
        return (x.result(0) < 0 ? "-" : "") + side(0) + (bottom.equals("1") ? "" : "/" + bottom);
    }

    static String latestText(int length) {
        StringBuilder s = new StringBuilder();
        for (int i = 0; i < length; i++) {
            s.append((char) x.letter(i));
        }
        return s.toString();
    }

    /** A constant's name is read as its number. */
    static String valueOf(String said) throws ReflectiveOperationException {
        boolean isName = said.matches("[A-Z]+");
        return isName ? String.valueOf(RootTowers.class.getField(said).getInt(null)) : said;
    }

    static void run(Matcher row) throws ReflectiveOperationException {
        String call = row.group(1) + "(" + row.group(2) + ")";
        String told = row.group(4) == null ? "" : row.group(4);
        String said = row.group(3).equals("throws") ? "throws" + told : valueOf(row.group(3));
        String got = answer(row.group(1), row.group(2));
        due(call, got, said);
        Matcher result = RESULT.matcher(told);
        if (result.find()) {
            due("the result of " + call, result(), result.group(1));
        }
        Matcher text = TEXT.matcher(told);
        if (text.find()) {
            due("the text of " + call, latestText(Integer.parseInt(got)), text.group(1));
        }
    }

    static TreeSet<String> calls() {
        TreeSet<String> all = new TreeSet<>();
        for (Method m : RootTowers.class.getDeclaredMethods()) {
            if (Modifier.isPublic(m.getModifiers())) {
                all.add(m.getName());
            }
        }
        return all;
    }

    /** How a call begins in the table: its name, and the kinds of its arguments. */
    static void table(List<String> lines) {
        TreeSet<String> missing = calls();
        for (String line : lines) {
            Matcher row = Pattern.compile("\\| `(\\w+)\\((.*?)\\)` \\|.*").matcher(line);
            if (row.matches() && missing.remove(row.group(1))) {
                StringBuilder kinds = new StringBuilder();
                for (Class<?> type : methodOf(row.group(1)).getParameterTypes()) {
                    kinds.append(kinds.length() == 0 ? "" : ", ").append(type.getSimpleName());
                }
                due("table, " + row.group(1), kinds.toString(),
                    row.group(2).replaceAll("(int|long) \\w+", "$1"));
            }
        }
        due("calls that the table lacks", missing, new TreeSet<String>());
    }

    public static void main(String[] args) throws IOException, ReflectiveOperationException {
        List<String> lines = new ArrayList<>(
            Files.readAllLines(Paths.get("README.md"), StandardCharsets.UTF_8));
        TreeSet<String> unused = calls();
        int rows = 0;
        for (String line : lines) {
            Matcher row = ROW.matcher(line);
            if (line.equals(BEGINS)) {
                x = new RootTowers();
            } else if (row.matches()) {
                run(row);
                unused.remove(row.group(1));
                rows++;
            } else if (line.startsWith("x.")) {
                due("a row without an answer", line, "nothing");
            }
        }
        due("calls that no row uses", unused, new TreeSet<String>());
        table(lines);
        System.out.println(rows + " rows of README.md, " + wrong + " not as due");
        if (wrong != 0) {
            System.exit(1);
        }
    }
}
