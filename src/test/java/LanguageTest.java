import java.io.IOException;
import java.nio.charset.StandardCharsets;
import java.nio.file.Files;
import java.nio.file.Path;
import java.util.List;

/** SurveyHouse.java keeps to LANGUAGE.md, as far as its text shows it; and what breaks a rule would be found. */
public final class LanguageTest {
    private static final Path SOURCE = Path.of("src/main/java/SurveyHouse.java");
    private static final Check check = new Check("LanguageTest");

    private static String with(String members) {
        return "public final class SurveyHouse { private int x; private int[] row = new int[3]; " + members + " }";
    }

    private static void holds(String what, String source) {
        check.due(what + " " + Language.findings(source), Language.findings(source).size(), 0);
    }

    /** The rule is among those that are told: a rule that finds nothing would pass unseen. */
    private static void breaks(int rule, String source) {
        List<String> findings = Language.findings(source);
        boolean isTold = false;
        for (String finding : findings) {
            isTold = isTold || finding.startsWith("rule " + rule + ",") || finding.startsWith("rule " + rule + ":");
        }
        check.due("rule " + rule + " is broken by " + source + ", told is " + findings, isTold, true);
    }

    private static void shape() {
        breaks(1, "package p; " + with(""));
        breaks(1, with("") + " final class Other { }");
        breaks(1, with("public static final class Open { }"));
        breaks(1, with("private final class Inner { }"));
        breaks(1, with("int open;"));
        breaks(2, with("private static final class Up extends Exception { private static final long serialVersionUID = 1; }"));
        breaks(3, with("private Object o;"));
        breaks(3, with("private java.util.HashMap<Integer, Integer> map;"));
        breaks(5, with("private static int count;"));
        breaks(5, with("private static final int[] ROW = new int[3];"));
        breaks(5, with("static { }"));
    }

    private static void words() {
        breaks(4, with("public long now() { return System.nanoTime(); }"));
        breaks(4, with("public int up() { return Math.addExact(x, 1); }"));
        breaks(4, with("public double root() { return Math.abs(1.5); }"));
        breaks(4, with("public String text() { return String.valueOf(x); }"));
        breaks(6, with("public SurveyHouse() { throw new IllegalStateException(\"no\"); }"));
        breaks(6, with("public void no() { throw new Error(\"no\"); }"));
        breaks(6, with("public void no(String s) { throw new IllegalStateException(s); }"));
        breaks(6, with("public void no(RuntimeException e) { throw e; }"));
        breaks(6, with("public boolean same(String s) { return s == \"a\"; }"));
        breaks(10, with("public int tried() { try { return row[x]; } catch (RuntimeException e) { return 0; } }"));
        breaks(10, with("public void locked() { synchronized (this) { x = 1; } }"));
        breaks(10, with("public void sure() { assert x == 0; }"));
        breaks(10, with("public void later() { Runnable r = () -> x = 1; }"));
        breaks(10, with("public void later() { Runnable r = this::later; }"));
        breaks(10, with("public String text() { return \"a\" + x; }"));
        breaks(10, with("public void text(String s) { s += 1; }"));
        breaks(10, with("public int of(String s) { switch (s) { default: return 0; } }"));
    }

    private static void machine() {
        breaks(7, with("public int part(int y) { return x / y; }"));
        breaks(7, with("public int left(int y) { return x % y; }"));
        breaks(7, with("public void part(int y) { x /= y; }"));
        breaks(7, with("public double part(int y) { return 1.0 / (double) y; }"));
        breaks(7, with("private final int[] more = new int[x];"));
        breaks(7, with("public Integer box(Object o) { return (Integer) o; }"));
        breaks(8, with("private static int down(int k) { return k <= 0 ? 0 : down(k - 1); }"));
        breaks(8, with("private int one() { return two(); } private int two() { return one(); }"));
        breaks(9, with("public void on() { for (;;) { x++; } }"));
        breaks(9, with("public void on() { for (int i = 0; i < 3; i--) { x++; } }"));
        breaks(9, with("public void on() { for (int i = 0; i < 3; i++) { i = 0; } }"));
        breaks(10, with("public void on() { while (x < 3) { x = 0; } }"));
        breaks(12, with("public int[] more() { return new int[3]; }"));
        breaks(12, with("public SurveyHouse other() { return new SurveyHouse(); }"));
    }

    private static void sizes() {
        breaks(11, with("private void many(int a, int b, int c, int d, int e, int f, int g, int h) { }"));
        breaks(11, with("private void lines() {" + "\n".repeat(60) + "}"));
        StringBuilder deep = new StringBuilder("private void m9() { }");
        for (int k = 1; k < 9; k++) {
            deep.append(" private void m").append(k).append("() { m").append(k + 1).append("(); }");
        }
        breaks(11, with(deep.toString()));
        StringBuilder classes = new StringBuilder();
        StringBuilder fields = new StringBuilder();
        for (int k = 0; k < 20; k++) {
            fields.append(" private int f").append(k).append(';');
            classes.append(" private static final class C").append(k).append(" { }");
        }
        breaks(11, with(fields.toString()));
        breaks(11, with(classes.toString()));
    }

    private static void signs(String source) {
        int others = 0;
        for (int k = 0; k < source.length(); k++) {
            char sign = source.charAt(k);
            others += sign == '\n' || sign >= 32 && sign < 127 ? 0 : 1;
        }
        check.due("signs in the source that are not 32 to 126", others, 0);
    }

    public static void main(String[] args) throws IOException {
        String source = Files.readString(SOURCE, StandardCharsets.UTF_8);
        holds("SurveyHouse.java keeps to the rules:", source);
        signs(source);
        holds("a class with nothing wrong:", with("public int part() { return x > 0 ? row[0] / x : 0; }"));
        shape();
        words();
        machine();
        sizes();
        check.end();
    }
}
