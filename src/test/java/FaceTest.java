import java.io.IOException;
import java.lang.reflect.Constructor;
import java.lang.reflect.Field;
import java.lang.reflect.Method;
import java.lang.reflect.Modifier;
import java.nio.file.Files;
import java.nio.file.Path;
import java.util.Set;
import java.util.TreeSet;

/** The public face of the document, and what of LANGUAGE.md the compiled class shows. */
public final class FaceTest {
  private static final String INDEX = "IndexOutOfBoundsException";
  private static final String ARGUMENT = "IllegalArgumentException";
  private static final String STATE = "IllegalStateException";

  private static final Due due = new Due();

  public static void main(String[] args) throws IOException {
    faceIsAsTheDocumentWritesIt();
    faceIsJustTheDocuments();
    methodsAreAsWritten();
    insideIsPrivate();
    sizesAreSmall();
    due.end();
  }

  /** The code block under "The public face", line by line, down to the names of parameters. */
  private static void faceIsAsTheDocumentWritesIt() throws IOException {
    String doc = Files.readString(Path.of("../shared/DOC.md"));
    String source = Files.readString(Path.of("src/main/java/Undermost.java")).replaceAll("\\s+", " ");
    String block = doc.substring(doc.indexOf("```java") + 7);
    int lines = 0;
    for (String line : block.substring(0, block.indexOf("```")).trim().split("\n")) {
      if (!line.equals("}")) {
        lines++;
        String want = line.trim().replaceAll("( \\{|;)$", " {");
        due.is("there is: " + want, source.contains(want), true);
      }
    }
    due.is("the class, its constructor and 24 methods", lines, 26);
  }

  private static void faceIsJustTheDocuments() {
    int modifiers = Undermost.class.getModifiers();
    due.is("public and final", Modifier.isPublic(modifiers) && Modifier.isFinal(modifiers), true);
    due.is("no package", Undermost.class.getPackageName(), "");
    Constructor<?>[] constructors = Undermost.class.getDeclaredConstructors();
    due.is("one constructor", constructors.length, 1);
    due.is("it is public", Modifier.isPublic(constructors[0].getModifiers()), true);
    due.is("it takes nothing", constructors[0].getParameterCount(), 0);
    int open = 0;
    for (Method m : Undermost.class.getDeclaredMethods()) {
      if (!Modifier.isPrivate(m.getModifiers()) && !m.isSynthetic()) {
        open++;
      }
    }
    due.is("24 methods that others see", open, 24);
    for (Field f : Undermost.class.getDeclaredFields()) {
      due.is("private: " + f.getName(), Modifier.isPrivate(f.getModifiers()), true);
      boolean isStatic = Modifier.isStatic(f.getModifiers());
      due.is("no static state: " + f.getName(),
          !isStatic || Modifier.isFinal(f.getModifiers()), true);
    }
  }

  private static void methodsAreAsWritten() {
    Class<?> i = int.class;
    Class<?> b = boolean.class;
    method("buy", i, new Class<?>[] {i, i}, INDEX, ARGUMENT, STATE);
    method("rule", b, new Class<?>[] {i, b}, INDEX);
    method("turn", i, new Class<?>[] {i}, INDEX);
    method("take", i, new Class<?>[] {i, i}, INDEX, STATE);
    method("back", i, new Class<?>[] {i, i}, INDEX, ARGUMENT, STATE);
    method("count", i, new Class<?>[] {i, i, i}, INDEX, ARGUMENT);
    method("found", i, new Class<?>[] {i}, INDEX, STATE);
    method("wash", i, new Class<?>[] {i}, INDEX);
    method("mend", i, new Class<?>[] {i}, INDEX, STATE);
    method("book", i, new Class<?>[] {i, i, i}, INDEX, ARGUMENT, STATE);
    method("drop", i, new Class<?>[] {i}, INDEX, STATE);
    method("knock", i, new Class<?>[] {});
    method("ofPiece", i, new Class<?>[] {i, i}, INDEX, ARGUMENT);
    method("ofKind", i, new Class<?>[] {i, i}, INDEX, ARGUMENT);
    method("at", i, new Class<?>[] {i, i}, INDEX);
    method("ofBooking", i, new Class<?>[] {i, i}, INDEX, ARGUMENT);
    method("store", i, new Class<?>[] {i}, ARGUMENT);
    method("shelf", String.class, new Class<?>[] {i}, INDEX);
    method("spread", i, new Class<?>[] {i, b, i}, INDEX, ARGUMENT);
    method("curve", double.class, new Class<?>[] {i}, ARGUMENT);
    method("washes", i, new Class<?>[] {i, i}, INDEX, STATE);
    method("fits", i, new Class<?>[] {i, i, i}, INDEX, ARGUMENT);
    method("isSound", b, new Class<?>[] {});
    method("digest", long.class, new Class<?>[] {});
  }

  private static void method(String name, Class<?> returns, Class<?>[] takes, String... thrown) {
    try {
      Method m = Undermost.class.getDeclaredMethod(name, takes);
      due.is(name + " is public", Modifier.isPublic(m.getModifiers()), true);
      due.is(name + " returns", m.getReturnType().getName(), returns.getName());
      StringBuilder told = new StringBuilder();
      for (Class<?> e : m.getExceptionTypes()) {
        told.append(e.getSimpleName()).append(' ');
      }
      StringBuilder want = new StringBuilder();
      for (String e : thrown) {
        want.append(e).append(' ');
      }
      due.is(name + " throws", told.toString(), want.toString());
    } catch (NoSuchMethodException e) {
      due.is(name, "missing", "there");
    }
  }

  /** Rule 1: classes inside are static and not public, and no private method bears a public name. */
  private static void insideIsPrivate() {
    Set<String> face = new TreeSet<>();
    for (Method m : Undermost.class.getMethods()) {
      face.add(m.getName());
    }
    noPrivateNamesake(Undermost.class, face);
    for (Class<?> inside : Undermost.class.getDeclaredClasses()) {
      int modifiers = inside.getModifiers();
      due.is(inside.getName() + " is static", Modifier.isStatic(modifiers), true);
      due.is(inside.getName() + " is public", Modifier.isPublic(modifiers), false);
      noPrivateNamesake(inside, face);
    }
  }

  private static void noPrivateNamesake(Class<?> c, Set<String> face) {
    for (Method m : c.getDeclaredMethods()) {
      boolean isOfTheFace = c == Undermost.class && Modifier.isPublic(m.getModifiers());
      due.is(c.getName() + "." + m.getName() + " is a namesake",
          !isOfTheFace && face.contains(m.getName()), false);
    }
  }

  /** Rule 11. */
  private static void sizesAreSmall() {
    Class<?>[] insides = Undermost.class.getDeclaredClasses();
    due.is("at most 12 classes", insides.length < 12, true);
    isSmall(Undermost.class);
    for (Class<?> inside : insides) {
      isSmall(inside);
    }
  }

  private static void isSmall(Class<?> c) {
    int fields = 0;
    for (Field f : c.getDeclaredFields()) {
      if (!Modifier.isStatic(f.getModifiers())) {
        fields++;
      }
    }
    due.is(c.getName() + ": at most 20 fields", fields <= 20, true);
    for (Method m : c.getDeclaredMethods()) {
      due.is(m.getName() + ": at most 7 parameters", m.getParameterCount() <= 7, true);
    }
  }
}
