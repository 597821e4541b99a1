import java.io.IOException;
import java.nio.charset.StandardCharsets;
import java.nio.file.Files;
import java.nio.file.Path;
import java.util.List;

/** The class keeps to ../shared/LANGUAGE.md, and what breaks a rule would be seen; it is run in the project's folder. */
public final class LanguageTest {
    private static final Path FILE = Path.of("src", "main", "java", "TeaRace.java");

    public static void main(String[] args) throws IOException {
        String text = Files.readString(FILE, StandardCharsets.ISO_8859_1);
        List<String> faults = LanguageRules.faultsOf("TeaRace", text);
        Check.holds("TeaRace keeps to the rules: " + faults, faults.isEmpty());
        keeping();
        faceAndClasses();
        typesAndLibrary();
        signs();
        numbersLookedAt();
        loopsAndCalls();
        sizes();
        Check.close("LanguageTest");
    }

    private static List<String> faultsIn(String members) throws IOException {
        return LanguageRules.faultsOf("A", "import java.util.ArrayList;\nimport java.util.Arrays;\nimport java.util.List;\n"
            + "public final class A {\n" + members + "\n}\n");
    }

    private static void keeps(String members) throws IOException {
        List<String> faults = faultsIn(members);
        Check.holds("kept by " + members + ": " + faults, faults.isEmpty());
    }

    private static void breaks(int rule, String members) throws IOException {
        List<String> faults = faultsIn(members);
        boolean seen = faults.stream().anyMatch(f -> f.startsWith("rule " + rule + ":") || f.startsWith("rule " + rule + ","));
        Check.holds("rule " + rule + " broken by " + members + ": " + faults, seen);
    }

    private static void keeping() throws IOException {
        keeps("public A() {}");
        keeps("private static final int[] ROW = {1, 2}; private static int at(int i) { return i < 0 || i > 1 ? 0 : ROW[i]; }");
        keeps("private static int sum(byte[] r) { int s = 0; for (int i = 0; i < r.length; i++) { s += r[i]; } return s; }");
        keeps("private static int share(int a, int b) { return b == 0 ? 0 : a / b + a % 10; }");
        keeps("private final List<S> all = new ArrayList<>(); private S of(int i) { return i < all.size() && i >= 0 ? all.get(i) : null; }"
            + " private static final class S { final int[][] rows = new int[2][3]; }");
    }

    private static void faceAndClasses() throws IOException {
        breaks(1, "int seen;");
        breaks(1, "public int a() { return 1; } private int a(int b) { return b; }");
        breaks(2, "private final class S {}");
        breaks(2, "public static final class S {}");
        breaks(2, "private void f() { class S {} }");
        breaks(2, "private interface S { int f(); } private S s() { return new S() { public int f() { return 1; } }; }");
        breaks(2, "private interface S { int f(); } private S s() { return () -> 1; }");
        breaks(2, "private interface S { int f(int a); } private S s() { return Math::abs; }");
        breaks(5, "private static int n = 0;");
        breaks(5, "private static final List<Integer> ALL = new ArrayList<>();");
        breaks(5, "private static final int N; static { N = 1; }");
        breaks(5, "private static final int[] ROW = {1, 2}; private void f() { ROW[1] = 3; }");
        breaks(5, "private static final int[] ROW = {1, 2}; private void f() { ROW[1]++; }");
        breaks(6, "private static final class S { public String toString() { return new String(); } }");
        breaks(12, "public A() { grow(); } private void grow() {}");
    }

    private static void typesAndLibrary() throws IOException {
        breaks(3, "private Object o;");
        breaks(3, "private final int[][][] rows = new int[1][1][1];");
        breaks(3, "private final boolean[][] rows = new boolean[1][1];");
        breaks(3, "private List<Long> all;");
        breaks(3, "private void f(java.util.HashMap<Integer, Integer> m) {}");
        breaks(4, "private long now() { return System.nanoTime(); }");
        breaks(4, "private int sum(int a, int b) { return Math.addExact(a, b); }");
        breaks(4, "private void sort(int[] r) { Arrays.sort(r); }");
        breaks(4, "private int most() { return Integer.MAX_VALUE; }");
        breaks(4, "private void f(StringBuilder b) { b.append(1.5); b.insert(0, 1); }");
        breaks(4, "private static final char C = '\u00e9';");
    }

    private static void signs() throws IOException {
        breaks(6, "private void f() { throw new IllegalArgumentException(); }");
        breaks(6, "private int f(int a) { try { a++; } finally { a--; } return a; }");
        breaks(6, "private void f() { synchronized (this) {} }");
        breaks(6, "private synchronized void f() {}");
        breaks(6, "private void f(int a) { assert a > 0; }");
        breaks(6, "private boolean f(String a, String b) { return a == b; }");
        breaks(6, "private String f(String a) { return a + 1; }");
        breaks(6, "private static class S {} private static class T extends S {} private T f(S s) { return (T) s; }");
    }

    private static void numbersLookedAt() throws IOException {
        breaks(7, "private int f(int[] r, int i) { return r[i]; }");
        breaks(7, "private int f(int[] r, int i) { int v = r[i]; return i < 0 ? 0 : v; }");
        breaks(7, "private int f(int[] r, int i) { return i >= 0 ? r[i + 1] : 0; }");
        breaks(7, "private int f(int a, int b) { return a / b; }");
        breaks(7, "private int f(int a, int b) { return a % b; }");
        breaks(7, "private int f(int a, int b) { a /= b; return a; }");
        breaks(7, "private int f(int a) { return a / 0; }");
        breaks(7, "private int f(List<Integer> l, int i) { return l.get(i); }");
    }

    private static void loopsAndCalls() throws IOException {
        breaks(9, "private void f(int n) { for (;;) {} }");
        breaks(9, "private void f(int n) { while (n > 0) { n--; } }");
        breaks(9, "private void f(int n) { do { n--; } while (n > 0); }");
        breaks(9, "private void f(int n) { for (int i = 0; i < n; i += n) {} }");
        breaks(9, "private void f(int n) { for (int i = 0; i != n; i++) {} }");
        breaks(9, "private void f(int n) { for (int i = 0; i < n; i++) { i--; } }");
        breaks(9, "private void f(int n) { for (int i = 0; i < n; i++) { i = 0; } }");
        breaks(11, "private int f(int n) { return n <= 0 ? 0 : f(n - 1); }");
        breaks(11, "private int f(int n) { return n <= 0 ? 0 : g(n - 1); } private int g(int n) { return f(n); }");
    }

    private static void sizes() throws IOException {
        keeps("private void f(int a, int b, int c, int d, int e, int g, int h) {}");
        breaks(11, "private void f(int a, int b, int c, int d, int e, int g, int h, int i) {}");
        keeps("private void f() {" + "\n".repeat(59) + "}");
        breaks(11, "private void f() {" + "\n".repeat(60) + "}");
        keeps(chain(8));
        breaks(11, chain(9));
        keeps(numbered("private int f%d;", 20));
        breaks(11, numbered("private int f%d;", 21));
        keeps(numbered("private static final class C%d {}", 11));
        breaks(11, numbered("private static final class C%d {}", 12));
    }

    private static String numbered(String member, int n) {
        StringBuilder all = new StringBuilder();
        for (int i = 0; i < n; i++) {
            all.append(String.format(member, i)).append('\n');
        }
        return all.toString();
    }

    /** So many methods, each of which calls the next one. */
    private static String chain(int n) {
        StringBuilder all = new StringBuilder();
        for (int i = 1; i < n; i++) {
            all.append("private void f" + i + "() { f" + (i + 1) + "(); }\n");
        }
        return all.append("private void f" + n + "() {}").toString();
    }
}
