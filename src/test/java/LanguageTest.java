import java.io.IOException;
import java.nio.file.Files;
import java.nio.file.Path;
import java.util.List;

/** The rules of LANGUAGE.md that the source shows; and that Language tells a source that breaks one. */
public final class LanguageTest {
  private static final Due due = new Due();

  public static void main(String[] args) throws IOException {
    classKeepsTheRules();
    classesInside();
    types();
    library();
    staticFields();
    exceptions();
    loopsAndCalls();
    due.end();
  }

  private static void classKeepsTheRules() throws IOException {
    due.about("Keep to ../shared/LANGUAGE.md");
    String source = Files.readString(Path.of("src/main/java/Undermost.java"));
    due.is("what the class breaks", String.join("\n", Language.faultsOf(source)), "");
    due.is("its signs are plain ones", source.chars().allMatch(sign -> sign < 128), true);
  }

  /** That a class with these members breaks this rule, and no other one. */
  private static void breaks(int rule, String members) throws IOException {
    breaksAsWritten(rule, "public final class Undermost { " + members + " }");
  }

  private static void breaksAsWritten(int rule, String source) throws IOException {
    List<String> faults = Language.faultsOf(source);
    boolean isTold = !faults.isEmpty();
    for (String fault : faults) {
      isTold &= fault.startsWith("rule " + rule + ":");
    }
    due.is(source + " told as " + faults, isTold, true);
  }

  private static void keeps(String members) throws IOException {
    due.is(members, Language.faultsOf("import java.util.ArrayList; public final class Undermost { "
        + members + " }").toString(), "[]");
  }

  private static void classesInside() throws IOException {
    due.about("Rules 1 and 2");
    breaksAsWritten(1, "package linen; public final class Undermost { }");
    breaksAsWritten(1, "public final class Undermost { } class Other { }");
    breaks(2, "void a() { class Local { } new Local(); }");
    breaks(2, "interface F { int f(int a); } int a() { F f = b -> b; return f.f(1); }");
    breaks(2, "interface F { int f(int a); } static int g(int a) { return a; } "
        + "int a() { F f = Undermost::g; return f.f(1); }");
    keeps("private static final class Inside { int a; } int a() { return new Inside().a; }");
    keeps("enum E { A, B } E a() { return E.A; }");
  }

  private static void types() throws IOException {
    due.about("Rule 3");
    breaks(3, "Object a;");
    breaks(3, "String[] a;");
    breaks(3, "int[][][] a;");
    breaks(3, "java.util.HashMap<Integer, Integer> a;");
    breaks(3, "java.util.ArrayList<String> a;");
    breaks(3, "java.util.Random a() { return null; }");
    breaks(3, "double a(double b) { return b % 2.0; }");
    breaks(3, "double a(double b) { b %= 2.0; return b; }");
    keeps("ArrayList<Integer> a; int[][] b; Undermost[] c; String d; StringBuilder e; float f;");
    keeps("int a(int b) { return b % 2; } double a(double b) { return b / 2.0; }");
  }

  private static void library() throws IOException {
    due.about("Rule 4");
    breaksAsWritten(4, "import java.util.HashMap; public final class Undermost { }");
    breaks(4, "double a(double b) { return Math.sqrt(b); }");
    breaks(4, "double a(double b) { return Math.max(b, 1.0); }");
    breaks(4, "int a(int b) { return Math.addExact(b, 1); }");
    breaks(4, "long a() { return System.nanoTime(); }");
    breaks(4, "String a(String b) { return b.trim(); }");
    breaks(4, "int a(String b) { return b.indexOf(\"c\"); }");
    breaks(4, "void a(StringBuilder b) { b.append(1.0); }");
    breaks(4, "void a(StringBuilder b) { b.append(1L); }");
    breaks(4, "void a(java.util.ArrayList<Integer> b) { b.remove(Integer.valueOf(1)); }");
    breaks(4, "void a(java.util.ArrayList<Integer> b) { b.addAll(b); }");
    breaks(4, "int a() { return hashCode(); }");
    breaks(4, "boolean a(Undermost b) { return b.equals(this); }");
    breaks(4, "void a() { new Thread(); }");
    breaks(4, "String a() { return new String(\"a\"); }");
    breaks(4, "String a() { return \"\u00e9\"; }");
    breaks(4, "char a() { return '\\0'; }");
    keeps("int a(int b) { return Math.max(b, Integer.bitCount(b)); }");
    keeps("String a(char[] b) { return new String(b); } int b(String c) { return c.indexOf('c'); }");
    keeps("String a(int b) { return new StringBuilder().append(b).append(' ').toString(); }");
    keeps("int a(ArrayList<Undermost> b) { b.remove(0); return b.size(); }");
  }

  private static void staticFields() throws IOException {
    due.about("Rule 5");
    breaks(5, "static int a = 1;");
    breaks(5, "static final double A = 1.0;");
    breaks(5, "static final Undermost A = new Undermost();");
    breaks(5, "static final int[] A = new int[3];");
    breaks(5, "static final int A; static { A = 1; }");
    keeps("static final int A = 1; static final int[] B = {1, 2}; static final String C = \"c\";");
  }

  private static void exceptions() throws IOException {
    due.about("Rule 6");
    breaks(6, "void a() { throw new NullPointerException(); }");
    breaks(6, "void a(String b) { throw new IllegalStateException(b); }");
    breaks(6, "void a() { try { b(); } catch (IllegalStateException e) { throw e; } } void b() { }");
    breaks(6, "Undermost() { throw new IllegalStateException(); }");
    breaks(6, "void a() { try { b(); } finally { b(); } } void b() { }");
    breaks(6, "void a() { try { b(); } catch (NullPointerException e) { b(); } } void b() { }");
    breaks(6, "void a() { try { b(); } catch (Exception e) { b(); } } void b() { }");
    breaks(6, "void a() { try { throw new IllegalStateException(); } "
        + "catch (IllegalStateException e) { b(); } } void b() { }");
    breaks(6, "synchronized void a() { }");
    breaks(6, "void a() { synchronized (this) { } }");
    breaks(6, "void a(int b) { assert b > 0; }");
    breaks(6, "boolean a(String b, String c) { return b == c; }");
    breaks(6, "boolean a(Integer b, Integer c) { return b != c; }");
    breaks(6, "static class B { } static class C extends B { } C a(B b) { return (C) b; }");
    keeps("void a() { throw new IllegalStateException(\"why\"); }");
    keeps("void a() { try { b(); } catch (IllegalStateException e) { b(); } } void b() { }");
    keeps("boolean a(Undermost b) { return b == null || b == this; } int a(double b) "
        + "{ return (int) b; }");
  }

  private static void loopsAndCalls() throws IOException {
    due.about("Rules 8 to 11");
    breaks(8, "int a(int b) { return b > 0 ? a(b - 1) : 0; }");
    breaks(8, "int a(int b) { return b > 0 ? c(b - 1) : 0; } int c(int b) { return a(b); }");
    breaks(9, "void a() { for (;;) { return; } }");
    breaks(9, "void a() { while (true) { return; } }");
    breaks(9, "void a(int b) { do { b++; if (b > 9) { return; } } while (true); }");
    breaks(10, "String a(int b) { return \"b\" + b; }");
    breaks(10, "String a(String b) { b += \"c\"; return b; }");
    breaks(11, "void a(int b, int c, int d, int e, int f, int g, int h, int i) { }");
    breaks(11, "void a() { " + "\n".repeat(60) + " }");
    breaks(11, classes(12));
    breaks(11, chain(9));
    keeps(chain(8));
    keeps("void a() { " + "\n".repeat(59) + " }");
    keeps(classes(11));
    keeps("int a(int b) { while (b < 9) { b++; } do { b--; } while (b > 0); return b; }");
  }

  private static String classes(int many) {
    StringBuilder text = new StringBuilder();
    for (int i = 0; i < many; i++) {
      text.append("static class C").append(i).append(" { } ");
    }
    return text.toString();
  }

  /** So many methods, of which each one calls the next. */
  private static String chain(int many) {
    StringBuilder text = new StringBuilder();
    for (int i = 1; i < many; i++) {
      text.append("void m").append(i).append("() { m").append(i + 1).append("(); } ");
    }
    return text.append("void m").append(many).append("() { }").toString();
  }
}
