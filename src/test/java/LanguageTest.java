import java.io.IOException;
import java.nio.charset.StandardCharsets;
import java.nio.file.Files;
import java.nio.file.Path;
import java.util.List;

/**
 * The program keeps to the rules of ../shared/LANGUAGE.md, and programs that do not are told from it. The first
 * argument names the directory of the project.
 */
public final class LanguageTest {
    private static final Check check = new Check();

    /** Members of a class WheelWorks, each behind the numbers of the rules that it breaks. */
    private static final String[][] SAMPLES = {
        {"", "private int x; private void a() { x++; }"},
        {"", "private static final class B { int[][] x; B[] y; ArrayList<B> z; ArrayList<Integer> i; String s; }"},
        {"1", "public void a() { } private static final class B { void a() { } }"},
        {"1", "private class B { }"},
        {"2", "interface R { void z(); } private void b() { R r = () -> { }; }"},
        {"2", "interface R { void z(); } private static void c() { } private void b() { R r = WheelWorks::c; }"},
        {"2", "private void a() { class B { } }"},
        {"3", "private double x;"},
        {"3", "private int[][][] x;"},
        {"3", "private Object x;"},
        {"3", "private String[] x;"},
        {"3", "private WheelWorks[][] x;"},
        {"3", "private ArrayList<int[]> x;"},
        {"4", "private int a() { return Integer.parseInt(\"1\"); }"},
        {"4", "private int a() { return Math.addExact(1, 2); }"},
        {"4", "private int a(int[] x) { return x.hashCode(); }"},
        {"4", "private void a() { new Thread(); }"},
        {"5", "private static int x;"},
        {"5", "private static final StringBuilder X = new StringBuilder();"},
        {"5", "static { }"},
        {"6", "private void a() { throw new NullPointerException(); }"},
        {"6", "private void a(String s) { throw new RuntimeException(s); }"},
        {"6", "WheelWorks() { throw new RuntimeException(); }"},
        {"6", "private void a() { try { a2(); } finally { } } private void a2() { }"},
        {"6", "private void a() { synchronized (this) { } }"},
        {"6", "private void a(int x) { assert x > 0; }"},
        {"6", "private boolean a(String s, String t) { return s == t; }"},
        {"6", "public void a() { throw new RuntimeException(); }"},
        {"6", "public void a() throws RuntimeException { }"},
        {"6", "public void a() throws IllegalStateException { b(); }"
            + " private void b() { throw new IllegalArgumentException(); }"},
        {"8", "private int a(int n) { return n < 1 ? 0 : a(n - 1); }"},
        {"8", "private static int a() { return a(); }"},
        {"9", "private void a() { for (;;) { } }"},
        {"9", "private void a() { while (true) { } }"},
        {"9", "private void a(int x) { do { x--; } while (true); }"},
        {"10", "private String a(String s, int x) { return s + x; }"},
        {"10", "private String a(String s, int x) { s += x; return s; }"},
        {"11", "private void a(int b, int c, int d, int e, int f, int g, int h, int i) { }"},
        {"11", "private void a() {" + "\n".repeat(60) + "}"},
        {"11", "private int a, b, c, d, e, f, g, h, i, j, k, l, m, n, o, p, q, r, s, t, u;"},
        {"11", "private void a() { b(); } private void b() { c(); } private void c() { d(); } private void d() { e(); }"
            + " private void e() { f(); } private void f() { g(); } private void g() { h(); }"
            + " private void h() { i(); } private void i() { }"},
        {"12", "private void a() { for (int i = 0; i < 9; i++) { new StringBuilder(); } }"},
        {"12", "private int[] a() { return new int[9]; }"},
        {"12", "private void a(ArrayList<Integer> l) { for (Integer i : l) { } }"},
    };

    public static void main(String[] args) throws IOException {
        if (args.length == 0) {
            throw new IllegalArgumentException("the first argument is to name the directory of the project");
        }
        Path program = Path.of(args[0], "src/main/java/WheelWorks.java");
        List<String> breaches = Language.breaches(Files.readString(program, StandardCharsets.UTF_8));
        check.due("breaches of the program", breaches.toString(), "[]");
        for (String[] sample : SAMPLES) {
            sample(sample[0], sample[1]);
        }
        check.due("a package line", rules("package p; public final class WheelWorks { }"), "1 ");
        check.due("two classes", rules("public final class WheelWorks { } class B { }"), "1 ");
        check.due("an import", rules("import java.util.HashMap; public final class WheelWorks { }"), "4 ");
        check.end();
    }

    private static void sample(String rule, String members) throws IOException {
        String due = rule.isEmpty() ? "" : rule + " ";
        check.due(members, rules("import java.util.ArrayList; public final class WheelWorks { " + members + " }"), due);
    }

    /** The numbers of the rules that a program breaks, each once. */
    private static String rules(String program) throws IOException {
        StringBuilder rules = new StringBuilder();
        for (String breach : Language.breaches(program)) {
            String number = breach.replaceFirst("rule (\\d+),.*", "$1") + " ";
            if (rules.indexOf(number) < 0) {
                rules.append(number);
            }
        }
        return rules.toString();
    }
}
