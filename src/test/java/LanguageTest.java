import java.io.IOException;
import java.nio.file.Files;
import java.nio.file.Path;
import java.util.Set;

/** The class keeps to the rules of LANGUAGE.md that can be told from its text, by their numbers. */
public final class LanguageTest {
  private static final Check CHECK = new Check("LanguageTest");

  public static void main(String[] args) throws IOException {
    String source = Files.readString(Path.of("src/main/java/GoldLeaves.java"));
    Set<String> broken = LanguageRules.brokenBy(source);
    CHECK.holds("GoldLeaves.java keeps to the rules: " + broken, broken.isEmpty());
    CHECK.holds("it is of characters 0 to 255 alone", source.chars().allMatch(c -> c < 256));
    goodSamples();
    samplesOfFace();
    samplesOfTypes();
    samplesOfStatements();
    samplesOfSizes();
    samplesOfConstructors();
    CHECK.finish();
  }

  private static String inClass(String members) {
    return "public final class GoldLeaves { public GoldLeaves() { } public int bar(int n) { return n; } " + members + " }";
  }

  private static String inMethod(String statements) {
    return inClass("private int own(int a, int b, String s, String t) { " + statements + " }");
  }

  /** The sample breaks that rule and no other; 0: none. So a rule that is not looked at is seen. */
  private static void due(int rule, String source) throws IOException {
    Set<String> broken = LanguageRules.brokenBy(source);
    boolean good = rule == 0 ? broken.isEmpty()
        : !broken.isEmpty() && broken.stream().allMatch(b -> b.startsWith("rule " + rule + ":"));
    CHECK.holds("rule " + rule + " is looked at in '" + source + "': " + broken, good);
  }

  private static void goodSamples() throws IOException {
    due(0, inClass(""));
    due(0, inMethod("int[] row = new int[a < 0 ? 0 : a]; for (int i = 0; i < row.length; i++) { row[i] = b; } return 1;"));
    due(0, inMethod("return s.equals(t) ? Math.max(a, b) : Integer.compare(s.length(), t.charAt(0));"));
    due(0, inClass("private static final int[] ROW = {1, 2}; private static final class Own { int n = 0; Own next; }"));
    due(0, inClass("private final Own[] all = new Own[] {new Own()}; private static final class Own { final int n = 3; }"));
  }

  private static void samplesOfFace() throws IOException {
    due(1, "package gold; " + inClass(""));
    due(1, inClass("int open(int n) { return n; }"));
    due(1, inClass("int open = 0;"));
    due(1, inClass("private int bar(int a, int b) { return a + b; }"));
    due(1, inClass("private static final class Own { int bar(int a) { return a; } }"));
    due(1, inClass("public static final class Own { }"));
    due(1, inClass("") + " class Second { }");
    due(2, inClass("private final class Own { }"));
    due(2, inMethod("class Own { } return 1;"));
  }

  private static void samplesOfTypes() throws IOException {
    due(3, inMethod("double d = a; return (int) d;"));
    due(3, inMethod("int[][][] deep = null; return a;"));
    due(3, inMethod("Object o = null; return a;"));
    due(3, inMethod("String[] texts = null; return a;"));
    due(3, inClass("private static final class Own { } private final Own[][] deep = null;"));
    due(3, inMethod("new java.util.Random(); return a;"));
    due(4, inMethod("return s.hashCode();"));
    due(4, inMethod("return s.trim().length();"));
    due(4, inMethod("return Math.addExact(a, b);"));
    due(4, inMethod("return (int) Math.sqrt(a);"));
    due(4, inMethod("return (int) System.nanoTime();"));
    due(4, "import java.util.Random; " + inClass(""));
    due(5, inClass("private static int state = 0;"));
    due(5, inClass("private static final int[] ROW = new int[3];"));
    due(5, inClass("private static final StringBuilder TEXT = null;"));
    due(5, inClass("static { }"));
  }

  private static void samplesOfStatements() throws IOException {
    due(6, inMethod("try { return a; } finally { a = 0; }"));
    due(6, inMethod("throw null;"));
    due(6, inMethod("assert a > b; return a;"));
    due(6, inMethod("synchronized (s) { return a; }"));
    due(6, inMethod("return s == t ? a : b;"));
    due(6, inClass("private static final class Own { public int hashCode() { return 1; } }"));
    due(8, inClass("private int own(int n) { return n < 1 ? 0 : own(n - 1); }"));
    due(8, inClass("private int one(int n) { return two(n); } private int two(int n) { return n < 1 ? 0 : one(n - 1); }"));
    due(9, inMethod("while (true) { if (a > b) { return a; } a++; }"));
    due(9, inMethod("for (;;) { if (a > b) { return a; } a++; }"));
    due(9, inMethod("do { if (a > b) { return a; } a++; } while (true);"));
    due(10, inMethod("String u = s + a; return u.length();"));
    due(10, inMethod("s += t; return s.length();"));
  }

  private static void samplesOfSizes() throws IOException {
    due(0, inClass("private int own(int a, int b, int c, int d, int e, int f, int g) { return a; }"));
    due(11, inClass("private int own(int a, int b, int c, int d, int e, int f, int g, int h) { return a; }"));
    due(0, inMethod("\n".repeat(59) + "return a;"));
    due(11, inMethod("\n".repeat(60) + "return a;"));
    due(0, inClass(rows(11, "private static final class Own# { } ")));
    due(11, inClass(rows(12, "private static final class Own# { } ")));
    due(0, inClass(rows(20, "private int field# = 0; ") + rows(9, "private static final int CONSTANT# = 0; ")));
    due(11, inClass(rows(21, "private int field# = 0; ")));
    String calls = "private int call#(int n) { return call_(n); } ";
    due(0, inClass(chain(7, calls)));
    due(11, inClass(chain(8, calls)));
  }

  private static String rows(int many, String row) {
    StringBuilder text = new StringBuilder();
    for (int i = 0; i < many; i++) {
      text.append(row.replace("#", "" + i));
    }
    return text.toString();
  }

  private static String chain(int many, String row) {
    StringBuilder text = new StringBuilder();
    for (int i = 0; i < many; i++) {
      text.append(row.replace("#", "" + i).replace("_", "" + (i + 1)));
    }
    return text.append("private int call").append(many).append("(int n) { return n; }").toString();
  }

  private static void samplesOfConstructors() throws IOException {
    String own = "private static final class Own { Own(GoldLeaves x) { } Own(int[] row) { } Own() { } void go() { } } ";
    due(0, inClass(own + "private final Own part = new Own();"));
    due(12, inClass(own + "private final Own part = new Own(this);"));
    due(12, inClass(own + "private final int[] row = new int[3]; private final Own part = new Own(row);"));
    due(12, inClass("private int m() { return 1; } private final int n = m();"));
    due(12, inClass(own + "private void many(int n) { for (int i = 0; i < n; i++) { new Own(); } }"));
    due(12, inClass("private void many(int n) { while (n > 0) { n--; int[] row = new int[n]; } }"));
    due(2, inClass("interface Own { int go(int n); } private void take(Own o) { } private void m() { take(n -> n); }"));
  }
}
