import java.io.IOException;
import java.nio.file.Files;
import java.nio.file.Path;
import java.util.List;

/**
 * The class keeps to LANGUAGE.md, as far as LanguageRules sees it. So that it does see, it is then shown sources that
 * each break a rule: within the class, within a method of it, or as the whole file.
 */
final class LanguageTest {
    private static final String[][] IN_THE_CLASS = {
        {"1", "public int more;"},
        {"1", "int open() { return 0; }"},
        {"1", "protected int open;"},
        {"1", "static final int OPEN = 1;"},
        {"1", "private int rest(int less) { return less; }"},
        {"1", "public static final class Seen { }"},
        {"1", "private static final class Own { private int rest() { return 0; } }"},
        {"2", "private final class Inner { }"},
        {"3", "private final Object any = null;"},
        {"3", "private final int[][][] deep = null;"},
        {"3", "private final String[] names = null;"},
        {"3", "private final ArrayList<String> names = null;"},
        {"3", "private final java.util.HashMap<Integer, Integer> map = null;"},
        {"3", "private long boxed(Long one) { return one; }"},
        {"5", "private static int counted;"},
        {"5", "private static final int[] ROOM = new int[4];"},
        {"5", "private static final short[] SHORTS = {1};"},
        {"5", "private static final ArrayList<Integer> KEPT = null;"},
        {"5", "static { }"},
        {"6", "private synchronized int held() { return 0; }"},
        {"6", "private static final class Own { public String toString() { return null; } }"},
        {"8", "private int twice(int n) { return n > 0 ? twice(n - 1) : 0; }"},
        {"8", "private int one(int n) { return n > 0 ? other(n - 1) : 0; } private int other(int n) { return one(n); }"},
        {"8", "private abstract static class Top { abstract int up(Top t); }"
            + " private static final class Leaf extends Top { int up(Top t) { return t == null ? 0 : t.up(null); } }"},
        {"11", "private int many(int a, int b, int c, int d, int e, int f, int g, int h) { return a; }"},
        {"11", "private int longOne(int n) {" + "\n n++;".repeat(60) + " return n; }"},
        {"11", "private int a, b, c, d, e, f, g, h, i, j, k, l, m, n, o, p, q, r, s, t, u;"},
        {"11", chainOf(9)},
        {"11", classesOf(12)},
    };

    private static final String[][] IN_A_METHOD = {
        {"2", "Runnable run = () -> { };"},
        {"2", "Runnable run = this::rest;"},
        {"2", "Iterable<Integer> none = new ArrayList<Integer>() { };"},
        {"2", "class Local { }"},
        {"3", "Object any = null;"},
        {"3", "var any = new Object();"},
        {"4", "int root = (int) Math.sqrt(2);"},
        {"4", "int sum = Math.addExact(1, 2);"},
        {"4", "long now = System.nanoTime();"},
        {"4", "int code = new int[1].hashCode();"},
        {"4", "boolean same = \"a\".equalsIgnoreCase(\"A\");"},
        {"4", "Arrays.sort(new int[1]);"},
        {"4", "String odd = \"\\u00e9\";"},
        {"4", "char odd = '\\0';"},
        {"6", "if (true) { throw new RuntimeException(); }"},
        {"6", "try { n++; } finally { n--; }"},
        {"6", "synchronized (this) { n++; }"},
        {"6", "assert n > 0;"},
        {"6", "String text = \"a\"; boolean same = text == \"b\";"},
        {"6", "Integer one = n; Integer two = n; boolean same = one != two;"},
        {"6", "ArrayList<Integer> list = null; Object any = (Iterable<Integer>) list;"},
        {"9", "while (true) { n++; if (n > 9) { break; } }"},
        {"9", "for (;;) { n++; if (n > 9) { break; } }"},
        {"9", "do { n++; if (n > 9) { break; } } while (true);"},
        {"10", "String text = \"a\" + n;"},
        {"10", "String text = \"a\"; text += n;"},
    };

    private static final String[][] WHOLE = {
        {"0", "public final class PadPolish { int }"},
        {"0", "public final class PadPolish { private int n = \"a\"; }"},
        {"1", "package a; public final class PadPolish { }"},
        {"1", "public class PadPolish { }"},
        {"1", "public final class PadPolish { } final class Beside { }"},
        {"4", "import java.util.HashMap; public final class PadPolish { }"},
        {"4", "import static java.lang.Math.max; public final class PadPolish { }"},
    };

    /** What the rules allow, so that the test does not ask for less. */
    private static final String ALL_THAT_MAY_BE = "private static final char[] SIGNS = {'a', '~'};"
        + " private final int[][] two = new int[2][3];"
        + " private static final class Box<T> { private T held; }"
        + " private record Pair(int one, int two) { }"
        + " private enum Sort { ONE, TWO }"
        + " private interface Sized { int size(); }"
        + " private static final class Leaf implements Sized { public int size() { return 1; } }"
        + " private int used(Sized sized, Sort sort) {"
        + "   StringBuilder text = new StringBuilder(); text.append(\"a\").append('b').append(1).setLength(1);"
        + "   ArrayList<Integer> list = new ArrayList<>(); list.add(4); int[] same = two[0].clone();"
        + "   if (sized instanceof Leaf s && sort != Sort.TWO) { return s.size() + text.toString().length(); }"
        + "   return Math.floorMod(list.get(0), 3) + Integer.bitCount(same[0]) + Math.max(chain0(1), 2); }"
        + chainOf(7);

    public static void main(String[] args) throws IOException {
        isKept(Files.readString(Path.of("src/main/java/PadPolish.java")));
        isKept(inTheClass(""));
        isKept(inTheClass(ALL_THAT_MAY_BE));
        for (String[] one : IN_THE_CLASS) {
            isSeen(one[0], one[1], inTheClass(one[1]));
        }
        for (String[] one : IN_A_METHOD) {
            isSeen(one[0], one[1], inTheClass("private int used(int n) { " + one[1] + " return n; }"));
        }
        for (String[] one : WHOLE) {
            isSeen(one[0], one[1], one[1]);
        }
        Checks.end();
    }

    private static String inTheClass(String member) {
        return "import java.util.ArrayList;\nimport java.util.Arrays;\npublic final class PadPolish {"
            + " public static final int NONE = -1; private int kept; public int rest() { return kept; } " + member + "}";
    }

    private static String chainOf(int methods) {
        StringBuilder chain = new StringBuilder();
        for (int i = 0; i < methods; i++) {
            String next = i < methods - 1 ? "chain" + (i + 1) + "(n)" : "n";
            chain.append(" private static int chain").append(i).append("(int n) { return ").append(next).append("; }");
        }
        return chain.toString();
    }

    private static String classesOf(int classes) {
        StringBuilder source = new StringBuilder();
        for (int i = 0; i < classes; i++) {
            source.append(" private static final class Own").append(i).append(" { }");
        }
        return source.toString();
    }

    private static void isKept(String source) throws IOException {
        for (LanguageRules.Breach breach : LanguageRules.breaches(source)) {
            Checks.due("breaches of rule " + breach.rule() + ", " + breach.what(), 1, 0);
        }
    }

    private static void isSeen(String rule, String shown, String source) throws IOException {
        List<LanguageRules.Breach> breaches = LanguageRules.breaches(source);
        boolean seen = breaches.stream().anyMatch(breach -> breach.rule() == Integer.parseInt(rule));
        Checks.due("that rule " + rule + " is broken by " + shown + " (seen: " + breaches + ")", seen ? 1 : 0, 1);
    }
}
