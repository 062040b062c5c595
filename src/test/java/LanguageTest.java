import java.io.IOException;
import java.nio.file.Files;
import java.nio.file.Path;

/** The class keeps to LANGUAGE.md, as far as its source tells; and Rules sees what would break a rule. */
public final class LanguageTest {
    /** The rule, and a member by which a class would break it. */
    private static final String[][] RULED_OUT = {
        {"1", "public static final class A { }"},
        {"2", "final class A { }"},
        {"2", "private int a() { class B { } return 1; }"},
        {"2", "private final A a = new A() { }; private static class A { }"},
        {"2", "private void a() { b(() -> 1); } private void b(int i) { }"},
        {"2", "private void a() { b(WindBoxes::a); } private void b(int i) { }"},
        {"3", "private Object a = null;"},
        {"3", "private A[][] a = null; private static final class A { }"},
        {"3", "private int[][][] a = null;"},
        {"4", "private int a() { return Integer.MAX_VALUE; }"},
        {"4", "private long a() { return Long.MIN_VALUE; }"},
        {"4", "private int a(int i) { return Math.addExact(i, 1); }"},
        {"4", "private long a() { return System.nanoTime(); }"},
        {"4", "private void a() { System.out.println(); }"},
        {"4", "private int a() { return java.util.Objects.hash(1); }"},
        {"4", "private int a(int[] row) { Arrays.sort(row); return 1; }"},
        {"4", "private void a() { new Thread(); }"},
        {"5", "private static int a = 0;"},
        {"5", "private static final short A = 0;"},
        {"5", "private static final int[] A = B.clone();"},
        {"5", "static { }"},
        {"6", "private void a() { throw null; }"},
        {"6", "private void a() { try { } finally { } }"},
        {"6", "private void a() { synchronized (this) { } }"},
        {"6", "private void a(int i) { assert i > 0; }"},
        {"6", "public int hashCode() { return 1; }"},
        {"6", "private String a(int i) { return \"a\" + i; }"},
        {"8", "private int a(int i) { return i > 0 ? a(i - 1) : 0; }"},
        {"8", "private int a(int i) { return b(i); } private int b(int i) { return i > 0 ? a(i - 1) : 0; }"},
        {"9", "private void a() { while (true) { } }"},
        {"9", "private void a() { for (;;) { } }"},
        {"9", "private void a() { do { } while ((true)); }"},
        {"11", "private void a(int b, int c, int d, int e, int f, int g, int h, int i) { }"},
        {"11", "private void a() {" + "\n".repeat(60) + "}"},
        {"11", "private int a" + String.join("; private int a", "0123456789klmnopqrstu".split("")) + ";"},
    };

    public static void main(String[] args) throws IOException {
        String text = Files.readString(Path.of("src/main/java/WindBoxes.java"));
        Due.holds("characters 0 to 255", text.chars().allMatch(c -> c < 256));
        Rules rules = Rules.of(text);
        Due.holds("no rule is broken, but: " + rules.broken(), rules.broken().isEmpty());
        Due.holds("no call makes an object, but: " + rules.makers(), rules.makers().isEmpty());
        Due.holds("a plain class breaks none", Rules.of(inAClass("private int a = 0;")).broken().isEmpty());
        for (String[] row : RULED_OUT) {
            sees(row[0], inAClass(row[1]));
        }
        sees("0", "package a; " + inAClass(""));
        sees("0", inAClass("") + " class A { }");
        sees("4", "import java.util.Random; " + inAClass(""));
        Due.holds("a call that makes an array is seen",
            Rules.of(inAClass("private int[] a() { return new int[1]; }")).makers().contains("a"));
        Due.end();
    }

    private static String inAClass(String member) {
        return "public final class WindBoxes { " + member + " }";
    }

    private static void sees(String rule, String source) throws IOException {
        boolean seen = false;
        for (String told : Rules.of(source).broken()) {
            seen |= (", " + told.substring(0, told.indexOf(':')) + ",").contains(", " + rule + ",");
        }
        Due.holds("rule " + rule + " is seen to be broken in " + source, seen);
    }
}
