import java.io.IOException;
import java.nio.file.Files;
import java.nio.file.Path;

/** The program keeps to the rules of ../shared/LANGUAGE.md that can be read off its lines. */
public final class LanguageTest {
    private static final Path PROGRAM = Path.of("src/main/java/ShadowWalls.java");
    private static final int RULES = 13;

    public static void main(String[] args) throws IOException {
        Due due = new Due("LanguageTest");
        String text = Files.readString(PROGRAM);
        Language program = Language.of("ShadowWalls", text);
        for (int number = 1; number <= RULES; number++) {
            int rule = number;
            due.is("rule " + rule + " is broken by", "[]", () -> program.faultsOf(rule));
        }
        everyRuleIsSeen(due);
        due.end();
    }

    /** Else a check that looks at nothing would pass for ever. */
    private static void everyRuleIsSeen(Due due) {
        seen(due, 0, "public int a() { return b(); } private int b() { return Math.max(1, Integer.bitCount(2)); }");
        seen(due, 0, "private static final int A = 1; public int a() { throw new IllegalStateException(\"no\"); }");
        seen(due, 1, "int a() { return 0; }");
        seen(due, 1, "int a;");
        seen(due, 1, "public int a() { return 0; } private int a(int b) { return b; }");
        seen(due, 2, "public void a() { Runnable b = () -> { }; }");
        seen(due, 2, "public void a() { Runnable b = this::a; }");
        seen(due, 4, "public double a(double b) { return Math.sqrt(b); }");
        seen(due, 4, "public int a(int b) { return Math.addExact(b, b); }");
        seen(due, 4, "public long a() { return System.nanoTime(); }");
        seen(due, 5, "private static int a;");
        seen(due, 5, "private static final Object A = new Object();");
        seen(due, 6, "public void a() { throw new Error(); }");
        seen(due, 6, "public void a(String b) { throw new IllegalStateException(b); }");
        seen(due, 6, "public P() { throw new IllegalStateException(); }");
        seen(due, 6, "public void a() { try { b(); } finally { b(); } } private void b() { }");
        seen(due, 6, "public void a(int b) { assert b > 0; }");
        seen(due, 6, "public void a() { synchronized (this) { } }");
        seen(due, 10, "public String a(int b) { return \"b\" + b; }");
        seen(due, 11, "public void a(int b, int c, int d, int e, int f, int g, int h, int i) { }");
        seen(due, 11, "public void a() { " + "\n".repeat(60) + "}");
        seen(due, 11, "private int " + numbered("f", 21, ",") + ";");
        seen(due, 11, numbered("private static final class C", 12, " { } ") + " { }");
        seen(due, 0, chainOf(Language.DEEPEST));
        seen(due, 11, chainOf(Language.DEEPEST + 1));
    }

    /** Rule 0 stands for none. */
    private static void seen(Due due, int brokenRule, String members) {
        Language snippet = Language.of("P", "public final class P { " + members + " }");
        for (int number = 1; number <= RULES; number++) {
            int rule = number;
            due.is("of " + members + ": rule " + rule + " is broken", rule == brokenRule,
                () -> !snippet.faultsOf(rule).isEmpty());
        }
    }

    private static String numbered(String word, int times, String between) {
        StringBuilder words = new StringBuilder(word + 1);
        for (int n = 2; n <= times; n++) {
            words.append(between).append(word).append(n);
        }
        return words.toString();
    }

    private static String chainOf(int methods) {
        StringBuilder text = new StringBuilder("public void m1() { ");
        for (int n = 2; n <= methods; n++) {
            text.append("m").append(n).append("(); } private void m").append(n).append("() { ");
        }
        return text.append("}").toString();
    }
}
