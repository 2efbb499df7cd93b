import java.io.IOException;
import java.nio.file.Files;
import java.nio.file.Path;
import java.util.List;

/** The rules of LANGUAGE.md that can be seen in the text of the class, and that each is found where it is broken. */
public final class LanguageTest {
    private static final String NAME = "BeggarsChoose";
    private static final Path CLASS = Path.of("src/main/java/BeggarsChoose.java");
    // rule 8: these alone call themselves; the first carries its depth, the second ends with the beggars, six at most
    private static final String RECURSIONS = "[[City.partFrom, City.tryEach], [Play.answer, Play.run]]";
    /** A rule's number, and what breaks it within a class. */
    private static final String[][] WRONG = {
        {"1", "int open() { return 1; }"}, {"1", "int open;"}, {"1", "public static int loose;"}, {"1", "protected void f() { }"},
        {"1", "public void f() { } private void f(int x) { }"}, {"1", "public static class Open { }"},
        {"1", "public void f() { } private static final class C { private void f() { } }"},
        {"2", "private final class Inner { }"}, {"2", "private void f() { class Local { } }"},
        {"2", "private interface I { int g(int x); } private final I i = x -> x;"},
        {"2", "private interface I { int g(int x); } private final I i = Math::abs;"},
        {"2", "private interface I { } private final I i = new I() { };"},
        {"3", "private Object o;"}, {"3", "private java.util.HashMap<Integer, Integer> m;"}, {"3", "private int[][][] deep;"},
        {"3", "private String[][] texts;"}, {"3", "private Long boxed;"}, {"3", "private void f(Iterable<Integer> x) { }"},
        {"3", "private Object f() { return null; }"}, {"3", "private void f() { Object o = null; }"},
        {"4", "private String f(int x) { return String.valueOf(x); }"}, {"4", "private long f() { return System.nanoTime(); }"},
        {"4", "private int f(int x) { return Math.addExact(x, 1); }"}, {"4", "private int f(String s) { return s.hashCode(); }"},
        {"4", "private final char c = '\u00e9';"}, {"4", "private void f() { System.out.println(); }"},
        {"5", "private static int loose;"}, {"5", "static { }"}, {"5", "private static final short S = 1;"},
        {"5", "private static final int[] R = new int[3];"}, {"5", "private static final boolean[] R = {true};"},
        {"5", "private static final int[] R = {1}; private void f() { R[0] = 2; }"},
        {"5", "private static final int[] R = {1}; private void f() { R[0]++; }"},
        {"5", "private static final int[] R = {1}; private void f() { R[0] += 1; }"},
        {"6", "private void f() { throw null; }"}, {"6", "private void f() { try { } finally { } }"},
        {"6", "private void f() { synchronized (this) { } }"}, {"6", "private void f() { assert true; }"},
        {"6", "private int hashCode(int x) { return x; }"}, {"6", "private boolean f(String s, String t) { return s == t; }"},
        {"6", "private boolean f(Integer s, Integer t) { return s != t; }"},
        {"6", "private static class A { } private static class B extends A { } private B f(A a) { return (B) a; }"},
        {"9", "private void f() { while (true) { } }"}, {"9", "private void f() { for (;;) { } }"},
        {"9", "private void f() { do { } while (true); }"},
        {"10", "private String f(String s) { return s + 1; }"},
        {"11", "private void f(int a, int b, int c, int d, int e, int g, int h, int i) { }"},
        {"11", "private void f() {" + "\n".repeat(60) + "}"},
        {"11", "private int a, b, c, d, e, f, g, h, i, j, k, l, m, n, o, p, q, r, s, t, u;"},
        {"11", "private void a() { b(); } private void b() { c(); } private void c() { d(); } private void d() { e(); } "
            + "private void e() { f(); } private void f() { g(); } private void g() { h(); } private void h() { i(); } "
            + "private void i() { }"},
        {"11", "private static class A { } private static class B { } private static class C { } private static class D { } "
            + "private static class E { } private static class F { } private static class G { } private static class H { } "
            + "private static class I { } private static class J { } private static class K { } private static class L { }"},
        {"12", "private int[] f() { return new int[1]; }"},
        {"12", "private static class C { } private void f() { C c = new C(); }"},
        {"12", "private static class C { C(int[] x) { } } private final int[] r = {1}; private final C c = new C(r);"},
        {"12", "private static class C { C(int[] x) { } } private final int[] r = {1}; private final C c = new C(this.r);"},
        {"12", "private static class C { int n; C(int[] x) { this(C.f(x), 1); } C(int x, int y) { n = f(r); } int[] r; "
            + "static int f(int[] x) { return 1; } }"},
        {"12", "private static class C { C(" + NAME + " x) { } } private final C c = new C(this);"},
    };

    public static void main(String[] args) throws IOException {
        Rules rules = Rules.of(NAME, Files.readString(CLASS));
        for (String broken : rules.broken()) {
            Due.is("rule " + broken, 1, 0);
        }
        Due.is("rules broken", rules.broken().size(), 0);
        Due.is("what calls itself: " + rules.recursions(), rules.recursions().toString().equals(RECURSIONS) ? 1 : 0, 1);
        Due.is("calls were seen", rules.deepest() > 1 ? 1 : 0, 1);
        found();
        Due.end();
    }

    /** A rule that a text breaks is told, or this test would let everything pass. */
    private static void found() throws IOException {
        for (String[] wrong : WRONG) {
            String body = wrong[1];
            List<String> broken = Rules.of(NAME, "public final class " + NAME + " { " + body + " }").broken();
            boolean isFound = broken.stream().anyMatch(told -> told.startsWith(wrong[0] + " "));
            Due.is("rule " + wrong[0] + " broken by " + body + ", found: " + broken, isFound ? 1 : 0, 1);
            Due.is("it compiles: " + body, broken.stream().noneMatch(told -> told.startsWith("0 ")) ? 1 : 0, 1);
        }
        Due.is("nothing is wrong in", Rules.of(NAME, "public final class " + NAME + " { private int x; }").broken().size(), 0);
    }
}
