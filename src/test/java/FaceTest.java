import java.io.IOException;
import java.io.UncheckedIOException;
import java.lang.reflect.Executable;
import java.lang.reflect.Field;
import java.lang.reflect.Method;
import java.lang.reflect.Modifier;
import java.nio.file.Files;
import java.nio.file.Path;
import java.util.Set;
import java.util.TreeSet;

/** The public face of the document and the rules of LANGUAGE.md that a test can see. */
public final class FaceTest {
  private static final Set<String> FACE = Set.of(
      "public static final int DiffDesk.NONE",
      "public DiffDesk(int)",
      "public boolean DiffDesk.feed(int,short)",
      "public boolean DiffDesk.clear(int)",
      "public int DiffDesk.size(int)",
      "public short DiffDesk.symbol(int,int)",
      "public int DiffDesk.diff(int,int) throws java.lang.IllegalArgumentException,java.lang.IllegalStateException",
      "public int DiffDesk.operation(int,int)",
      "public void DiffDesk.forget()",
      "public boolean DiffDesk.load(int,int,int)",
      "public int DiffDesk.patch(int) throws java.lang.IllegalArgumentException,java.lang.IndexOutOfBoundsException,"
          + "java.lang.IllegalStateException,java.lang.UnsupportedOperationException",
      "public int DiffDesk.merge()",
      "public int DiffDesk.result(int)",
      "public int DiffDesk.results()",
      "public int DiffDesk.hunks(int)",
      "public int DiffDesk.hunk(int,int,int)",
      "public float DiffDesk.alike(int,int)");

  private static final String[] FORBIDDEN = {
    "import ", "package ", "->", "::", "synchronized", "assert", "finally", "try ", "catch ", "Exact(",
    "hashCode", "equals(", "toString", "System.", "Random", "protected", "double", "new ArrayList",
  };

  public static void main(String[] args) {
    Check.holds("The public face", FaceTest::faceIsAsTheDocumentSays);
    Check.holds("LANGUAGE.md 1: no private method bears the name of a public one", FaceTest::privateNamesAreTheirOwn);
    Check.holds("LANGUAGE.md 1 and 11: the classes inside", FaceTest::classesInsideAreStaticAndHidden);
    Check.holds("LANGUAGE.md 5: static fields are final", FaceTest::fieldsAreNotSharedState);
    Check.holds("LANGUAGE.md 4, 6 and 13: what the source does without", FaceTest::sourceKeepsToTheLanguage);
    Check.end("FaceTest");
  }

  private static void faceIsAsTheDocumentSays() {
    Class<DiffDesk> face = DiffDesk.class;
    Check.due("the class is public and final", face.getModifiers(), Modifier.PUBLIC | Modifier.FINAL);
    Check.due("NONE", DiffDesk.NONE, -1);
    Set<String> found = new TreeSet<>();
    for (Field field : face.getDeclaredFields()) {
      if (!Modifier.isPrivate(field.getModifiers())) {
        found.add(field.toGenericString());
      }
    }
    for (Executable constructor : face.getDeclaredConstructors()) {
      found.add(constructor.toGenericString());
    }
    for (Method method : face.getDeclaredMethods()) {
      if (!Modifier.isPrivate(method.getModifiers())) {
        found.add(method.toGenericString());
      }
    }
    Check.due("the face", found, new TreeSet<>(FACE));
  }

  private static void privateNamesAreTheirOwn() {
    Set<String> publicNames = new TreeSet<>();
    for (Method method : DiffDesk.class.getMethods()) {
      publicNames.add(method.getName());
    }
    for (Method method : DiffDesk.class.getDeclaredMethods()) {
      if (Modifier.isPrivate(method.getModifiers())) {
        Check.due("a private method named " + method.getName(), publicNames.contains(method.getName()), false);
      }
    }
  }

  private static void classesInsideAreStaticAndHidden() {
    Class<?>[] inside = DiffDesk.class.getDeclaredClasses();
    Check.due("at most twelve classes", inside.length < 12, true);
    for (Class<?> one : inside) {
      Check.due(one + " is static", Modifier.isStatic(one.getModifiers()), true);
      Check.due(one + " is public", Modifier.isPublic(one.getModifiers()), false);
    }
  }

  private static void fieldsAreNotSharedState() {
    for (Field field : DiffDesk.class.getDeclaredFields()) {
      if (Modifier.isStatic(field.getModifiers())) {
        Check.due(field + " is final", Modifier.isFinal(field.getModifiers()), true);
      }
    }
  }

  private static String source() {
    try {
      return Files.readString(Path.of("src/main/java/DiffDesk.java"));
    } catch (IOException e) {
      throw new UncheckedIOException(e);
    }
  }

  private static void sourceKeepsToTheLanguage() {
    String withoutComments = source().replaceAll("(?s)/\\*.*?\\*/", "").replaceAll("//[^\\n]*", "");
    String code = withoutComments.replaceAll("\"[^\"\\n]*\"", "\"\"");
    for (String word : FORBIDDEN) {
      Check.due("the source has '" + word + "'", code.contains(word), false);
    }
  }
}
