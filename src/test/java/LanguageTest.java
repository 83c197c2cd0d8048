import java.io.IOException;
import java.nio.charset.StandardCharsets;
import java.nio.file.Files;
import java.nio.file.Path;
import java.util.List;

/** The class keeps to LANGUAGE.md (its path is the property "source"), and {@link Language} finds what would not. */
public final class LanguageTest {
    public static void main(String[] args) throws IOException {
        theClass();
        theLooker();
        Check.end();
    }

    private static void theClass() throws IOException {
        Check.part("LANGUAGE.md: the class");
        String source = Files.readString(Path.of(System.getProperty("source", "src/main/java/BuildEngine.java")),
            StandardCharsets.UTF_8);
        for (String broken : Language.brokenBy(source)) {
            Check.isTrue(broken, false);
        }
    }

    /** Each breaks one rule: were it not found, a look at the class would tell nothing. */
    private static void theLooker() {
        Check.part("LANGUAGE.md: what breaks a rule is found");
        none("int f(int a) { return a / 3; }");
        none("int f(int a, int b) { return b == 0 ? a : a / b; }");
        found(1, "int f() { return 0; }", "");
        found(1, "protected int f() { return 0; }", "");
        found(1, "int f;", "");
        found(1, "private int f(int a) { return a; } public int f() { return 0; }", "");
        found(2, "private final class In { }", "");
        found(2, "public static final class In { }", "");
        found(2, "private void f() { final class In { } }", "");
        found(2, "private Object f() { return new Object() { }; }", "");
        found(2, "private Runnable f() { return () -> { }; }", "");
        found(2, "private java.util.function.IntUnaryOperator f() { return Math::abs; }", "");
        found(3, "private double f;", "");
        found(3, "private int[][][] f;", "");
        found(3, "private BuildEngine[][] f;", "");
        found(3, "private Object f(Object a) { return a; }", "");
        found(3, "private java.util.HashMap<Integer, Integer> f;", "");
        found(4, "private long f() { return System.nanoTime(); }", "");
        found(4, "private int f(int a) { return Math.addExact(a, 1); }", "");
        found(4, "private Object f() { return new java.util.Random(); }", "");
        found(4, "private void f(BuildEngine[] a) { Arrays.fill(a, null); }", "import java.util.Arrays;");
        found(4, "private int f;", "import java.io.File;");
        found(4, "private char f = '\\u00e9';", "");
        found(5, "private static int f = 1;", "");
        found(5, "private static final int[] F = new int[3];", "");
        found(5, "static { }", "");
        found(6, "private void f() { throw new IllegalStateException(); }", "");
        found(6, "private void f() { try { f(); } finally { f(); } }", "");
        found(6, "private synchronized void f() { }", "");
        found(6, "private void f() { synchronized (this) { } }", "");
        found(6, "private void f() { assert true; }", "");
        found(6, "private boolean f(String a, String b) { return a == b; }", "");
        found(6, "public int hashCode() { return 1; }", "");
        found(6, "private BuildEngine f(Object a) { return (BuildEngine) a; }", "");
        found(7, "private int f(int a, int b) { return a / b; }", "");
        found(7, "private int f(int a, int b) { return b == 0 ? a % b : a; }", "");
        found(8, "private int f(int a) { return a > 0 ? f(a - 1) : 0; }", "");
        found(8, "public int f(int level) { return level > 0 ? f(level - 1) : 0; }", "");
        found(8, "private int f(int a) { return g(a); } private int g(int level) { return f(level); }", "");
        found(9, "private void f() { while (true) { } }", "");
        found(9, "private void f() { for (;;) { } }", "");
        found(9, "private void f() { do { } while (true); }", "");
        found(10, "private String f(int a) { return \"a\" + a; }", "");
        found(11, "private void f(int a, int b, int c, int d, int e, int f, int g, int h) { }", "");
        found(11, "private void f() { " + "\n".repeat(60) + "}", "");
        found(11, chain(9), "");
        found(11, several("private static final class C# { }", 12), "");
        found(11, several("private int f#;", 21), "");
        found(12, "private static class In { }", "");
        found(12, "private void f(int a) { for (int i = 0; i < a; i++) { int[] b = new int[2]; } }", "");
        found(12, "private void f(int a) { while (a > 0) { int[] b = new int[2]; a--; } }", "");
        none(chain(8));
        none("private int f(int level) { return level > 0 ? f(level - 1) : 0; }");
        none("private void f() { for (int i = 0; i < 9; i++) { int[] b = new int[2]; } }");
    }

    private static void none(String member) {
        List<String> broken = Language.brokenBy(program(member.startsWith("private") ? member : "private " + member, ""));
        Check.isTrue("keeps to the rules: " + member + ", but found " + broken, broken.isEmpty());
    }

    private static void found(int rule, String member, String imports) {
        List<String> broken = Language.brokenBy(program(member, imports));
        boolean found = false;
        for (String one : broken) {
            found |= one.startsWith("rule " + rule + ",");
        }
        Check.isTrue("breaks rule " + rule + ": " + imports + member + ", but found " + broken, found);
    }

    private static String program(String member, String imports) {
        return imports + "\npublic final class BuildEngine {\n" + member + "\n}\n";
    }

    private static String chain(int methods) {
        StringBuilder chain = new StringBuilder("private void f1() { }");
        for (int i = 2; i <= methods; i++) {
            chain.append(" private void f").append(i).append("() { f").append(i - 1).append("(); }");
        }
        return chain.toString();
    }

    private static String several(String member, int times) {
        StringBuilder several = new StringBuilder();
        for (int i = 0; i < times; i++) {
            several.append(member.replace("#", String.valueOf(i))).append(' ');
        }
        return several.toString();
    }
}
