import java.util.LinkedHashMap;
import java.util.Map;

/** Small classes, each with the words of the rule that it breaks; no words behind a class that breaks none. */
final class LanguageSamples {
    private static final Map<String, String> SAMPLES = new LinkedHashMap<>();

    private LanguageSamples() {
    }

    static Map<String, String> all() {
        SAMPLES.clear();
        kept();
        members();
        library();
        exceptions();
        machine();
        methods();
        return SAMPLES;
    }

    private static void body(String body, String rule) {
        SAMPLES.put("public final class Sample { " + body + " }", rule);
    }

    private static void kept() {
        body("", "");
        body("private static final int[] TABLE = {1, 2}; private static final String TEXT = \"a\";", "");
        body("int get(int at) { return at < TABLE.length ? TABLE[at] : 0; } private static final int[] TABLE = {1};",
                "");
        body("int part(int a, int b) { return b == 0 ? 0 : a / b; }", "");
        body("int half(long a) { return (int) (Math.floorDiv(a, 2L) / 3); }", "");
        body("int wrong() { throw new IllegalStateException(\"a text\"); }", "");
        body("private final int[] row; public Sample() { row = new int[3]; System.arraycopy(row, 0, row, 1, 2); }",
                "");
        body("private final Inside inside = new Inside(); private static final class Inside { int count; }", "");
    }

    private static void members() {
        SAMPLES.put("package one; public final class Sample { }", "package");
        SAMPLES.put("import java.util.HashMap; public final class Sample { }", "rule 4: import");
        SAMPLES.put("import static java.lang.Math.max; public final class Sample { }", "rule 4: import");
        body("void a() { class Inside { } }", "rule 2: a local class");
        body("Runnable a() { return () -> { }; }", "rule 2: a lambda");
        body("Runnable a() { return Sample::new; }", "rule 2: a method reference");
        body("private static int count;", "rule 5: static count");
        body("private static final int[][] ROWS = {{1}};", "rule 5: static ROWS");
        body("private static final double HALF = 0.5;", "rule 5: static HALF");
        body("private static final int A; static { A = 1; }", "rule 5: a static initialiser block");
        StringBuilder fields = new StringBuilder();
        StringBuilder classes = new StringBuilder();
        for (int i = 0; i <= 20; i++) {
            fields.append("int f").append(i).append("; ");
            classes.append("static class C").append(i).append(" { } ");
        }
        body(fields.toString(), "rule 11: 21 fields");
        body(classes.toString(), "rule 11: 22 classes");
    }

    private static void library() {
        body("Object a;", "rules 3 and 4: Object");
        body("java.util.Random a;", "rules 3 and 4: java.util.Random");
        body("long a() { return System.nanoTime(); }", "rule 4: System.nanoTime");
        body("int a(int b) { return Math.addExact(b, 1); }", "rule 4: Math.addExact");
        body("double a(double b) { return Math.abs(b); }", "rule 4: Math.abs");
        body("double a(double b) { return Math.sqrt(b); }", "rule 4: Math.sqrt");
        body("int a() { return Integer.MAX_VALUE; }", "rule 4: Integer.MAX_VALUE");
        body("String a(String b) { return b.trim(); }", "rule 4: String.trim");
        body("@Deprecated void a() { }", "rule 4: an annotation");
    }

    private static void exceptions() {
        body("public Sample() { throw new IllegalStateException(); }", "rule 6: a throw in a constructor");
        body("void a() { throw new Error(); }", "rule 6: throw new Error()");
        body("void a(String b) { throw new IllegalStateException(b); }", "rule 6: throw new IllegalStateException(b)");
        body("void a(RuntimeException b) { throw b; }", "rule 6: throw b");
        body("void a() { try { b(); } finally { b(); } } void b() { }", "rule 6: finally");
        body("void a() { try { b(); } catch (RuntimeException e) { b(); } } void b() { }", "rule 6: a catch");
        body("void a() { assert true; }", "rule 6: assert");
        body("void a() { synchronized (this) { } }", "rule 6: synchronized");
        body("public String toString() { return \"\"; }", "rule 6: toString");
        body("boolean a(Sample b) { return b instanceof Sample; }", "rule 6: instanceof");
        body("Sample a(Sample b) { return (Sample) b; }", "rule 6: a cast");
    }

    private static void machine() {
        body("int a(int[] row, int at) { return row[at]; }", "rule 7: the index of row[at]");
        body("int a(int[] row, int at) { return at < 3 ? row[at] : 0; }", "rule 7: the index of row[at]");
        body("int a(int b, int c) { return b / c; }", "rule 7: the divisor c");
        body("double a(int b, int c) { return (double) b / (double) c; }", "rule 7: the divisor (double)c");
        body("int a(int b, int c) { return b % c; }", "rule 7: the divisor c");
        body("int a(int b, int c) { b /= c; return b; }", "rule 7: the divisor c");
        body("long a(long b, long c) { return Math.floorMod(b, c); }", "rule 7: the divisor c");
        body("void a() { while (true) { a(); } }", "rule 9: a loop");
        body("String a(String b) { return b + 1; }", "rule 10: texts");
        body("String a(String b) { b += 1; return b; }", "rule 10: texts");
        body("int[] a() { return new int[3]; }", "rule 12: made by a call");
        body("Sample a() { return new Sample(); }", "rule 12: made by a call");
    }

    private static void methods() {
        body("void a(int b, int c, int d, int e, int f, int g, int h, int i) { }", "rule 11: 8 parameters");
        body("void a() {" + "\n".repeat(60) + "}", "rule 11: 61 lines");
        body("void a() {" + "\n".repeat(59) + "}", "");
        body("void a() { b(); } void b() { a(); }", "rule 8: ");
        StringBuilder chain = new StringBuilder();
        for (int i = 1; i <= 7; i++) {
            chain.append("void a").append(i).append("() { a").append(i + 1).append("(); } ");
        }
        body(chain + "void a8() { }", "");
        body(chain + "void a8() { a9(); } void a9() { }", "rule 11: calls too deep");
    }
}
