import java.io.IOException;
import java.io.UncheckedIOException;
import java.lang.reflect.Array;
import java.lang.reflect.Executable;
import java.lang.reflect.Field;
import java.lang.reflect.Method;
import java.lang.reflect.Modifier;
import java.nio.file.Files;
import java.nio.file.Path;
import java.util.Collections;
import java.util.IdentityHashMap;
import java.util.Set;
import java.util.TreeSet;

/** The public face of the document and the rules of LANGUAGE.md that a test can see. */
public final class FaceTest {
  private static final Set<String> FACE = Set.of(
      "public static final int DiffDesk.NONE",
      "public DiffDesk(int)",
      "public boolean DiffDesk.feed(int,short)",
      "public boolean DiffDesk.clear(int)",
      "public int DiffDesk.size(int)",
      "public short DiffDesk.symbol(int,int)",
      "public int DiffDesk.diff(int,int) throws java.lang.IllegalArgumentException,java.lang.IllegalStateException",
      "public int DiffDesk.operation(int,int)",
      "public void DiffDesk.forget()",
      "public boolean DiffDesk.load(int,int,int)",
      "public int DiffDesk.patch(int) throws java.lang.IllegalArgumentException,java.lang.IndexOutOfBoundsException,"
          + "java.lang.IllegalStateException,java.lang.UnsupportedOperationException",
      "public int DiffDesk.merge()",
      "public int DiffDesk.result(int)",
      "public int DiffDesk.results()",
      "public int DiffDesk.hunks(int)",
      "public int DiffDesk.hunk(int,int,int)",
      "public float DiffDesk.alike(int,int)");

  private static final String[] FORBIDDEN = {
    "import ", "package ", "->", "::", "synchronized", "assert", "finally", "try ", "catch ", "Exact(",
    "hashCode", "equals(", "toString", "System.", "Random", "protected", "double", "new ArrayList",
  };

  public static void main(String[] args) {
    Check.holds("The public face", FaceTest::faceIsAsTheDocumentSays);
    Check.holds("LANGUAGE.md 1: no private method bears the name of a public one", FaceTest::privateNamesAreTheirOwn);
    Check.holds("LANGUAGE.md 1 and 11: the classes inside", FaceTest::classesInsideAreStaticAndHidden);
    Check.holds("LANGUAGE.md 5: static fields are final", FaceTest::fieldsAreNotSharedState);
    Check.holds("LANGUAGE.md 4, 6 and 13: what the source does without", FaceTest::sourceKeepsToTheLanguage);
    Check.holds("LANGUAGE.md 12: a constructor hands out nothing of the object that it makes",
        FaceTest::constructorsHandOutNothing);
    Check.holds("LANGUAGE.md 12: what is kept stays small", FaceTest::callsKeepNothingMore);
    Check.end("FaceTest");
  }

  private static void faceIsAsTheDocumentSays() {
    Class<DiffDesk> face = DiffDesk.class;
    Check.due("the class is public and final", face.getModifiers(), Modifier.PUBLIC | Modifier.FINAL);
    Check.due("NONE", DiffDesk.NONE, -1);
    Set<String> found = new TreeSet<>();
    for (Field field : face.getDeclaredFields()) {
      if (!Modifier.isPrivate(field.getModifiers())) {
        found.add(field.toGenericString());
      }
    }
    for (Executable constructor : face.getDeclaredConstructors()) {
      found.add(constructor.toGenericString());
    }
    for (Method method : face.getDeclaredMethods()) {
      if (!Modifier.isPrivate(method.getModifiers())) {
        found.add(method.toGenericString());
      }
    }
    Check.due("the face", found, new TreeSet<>(FACE));
  }

  private static void privateNamesAreTheirOwn() {
    Set<String> publicNames = new TreeSet<>();
    for (Method method : DiffDesk.class.getMethods()) {
      publicNames.add(method.getName());
    }
    for (Method method : DiffDesk.class.getDeclaredMethods()) {
      if (Modifier.isPrivate(method.getModifiers())) {
        Check.due("a private method named " + method.getName(), publicNames.contains(method.getName()), false);
      }
    }
  }

  private static void classesInsideAreStaticAndHidden() {
    Class<?>[] inside = DiffDesk.class.getDeclaredClasses();
    Check.due("at most twelve classes", inside.length < 12, true);
    for (Class<?> one : inside) {
      Check.due(one + " is static", Modifier.isStatic(one.getModifiers()), true);
      Check.due(one + " is public", Modifier.isPublic(one.getModifiers()), false);
    }
  }

  private static void fieldsAreNotSharedState() {
    for (Field field : DiffDesk.class.getDeclaredFields()) {
      if (Modifier.isStatic(field.getModifiers())) {
        Check.due(field + " is final", Modifier.isFinal(field.getModifiers()), true);
      }
    }
  }

  private static String source() {
    try {
      return Files.readString(Path.of("src/main/java/DiffDesk.java"));
    } catch (IOException e) {
      throw new UncheckedIOException(e);
    }
  }

  private static void sourceKeepsToTheLanguage() {
    String withoutComments = source().replaceAll("(?s)/\\*.*?\\*/", "").replaceAll("//[^\\n]*", "");
    String code = withoutComments.replaceAll("\"[^\"\\n]*\"", "\"\"");
    for (String word : FORBIDDEN) {
      Check.due("the source has '" + word + "'", code.contains(word), false);
    }
  }

  // Whatever a constructor hands to another object is then held in a second place.
  private static void constructorsHandOutNothing() {
    Parts parts = new Parts();
    parts.collect("a new DiffDesk", new DiffDesk(40));
    Check.due("parts held in two places", parts.heldTwice, new TreeSet<String>());
  }

  private static void callsKeepNothingMore() {
    DiffDesk desk = Check.desk(40, Check.range(0, 20), Check.range(10, 30), Check.range(20, 40));
    Parts before = new Parts();
    before.collect("a DiffDesk", desk);
    for (int call = 60; call < 512; call += 4) {
      desk.diff(call % 3, 1);
      desk.patch(call % 3);
      desk.merge();
      desk.alike(1, 2);
    }
    Parts behind = new Parts();
    behind.collect("a DiffDesk", desk);
    Check.due("no new objects behind 512 calls", before.found.containsAll(behind.found), true);
    Check.due("few objects: " + behind.found.size(), behind.found.size() < 100, true);
    Check.due("few fields and elements: " + behind.elements, behind.elements < 2000, true);
  }

  /** The objects and arrays that an object is made of, itself among them. */
  private static final class Parts {
    private final Set<Object> found = Collections.newSetFromMap(new IdentityHashMap<>());
    private final Set<String> heldTwice = new TreeSet<>();
    private int elements = 0;

    void collect(String path, Object part) {
      if (!found.add(part)) {
        heldTwice.add(path);
      } else if (part.getClass().isArray()) {
        collectElements(path, part);
      } else {
        collectFields(path, part);
      }
    }

    private void collectElements(String path, Object array) {
      elements += Array.getLength(array);
      if (!array.getClass().getComponentType().isPrimitive()) {
        for (int k = 0; k < Array.getLength(array); k++) {
          collect(path + "[" + k + "]", Array.get(array, k));
        }
      }
    }

    private void collectFields(String path, Object part) {
      for (Field field : part.getClass().getDeclaredFields()) {
        if (!Modifier.isStatic(field.getModifiers())) {
          elements++;
          if (!field.getType().isPrimitive()) {
            collect(path + "." + field.getName(), valueOf(field, part));
          }
        }
      }
    }

    private static Object valueOf(Field field, Object part) {
      try {
        field.setAccessible(true);
        return field.get(part);
      } catch (IllegalAccessException e) {
        throw new IllegalStateException(e);
      }
    }
  }
}
