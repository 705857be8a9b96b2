import java.lang.reflect.Constructor;
import java.lang.reflect.Field;
import java.lang.reflect.Method;
import java.lang.reflect.Modifier;
import java.util.Arrays;
import java.util.TreeSet;

/** The public face is the document's and nothing more. */
public final class FaceTest {
  public static void main(String[] args) {
    Class<?> face = RingWeaver.class;
    Checks.due("modifiers of the class", "public final", Modifier.toString(face.getModifiers()));
    Checks.due("NONE", -1, RingWeaver.NONE);
    TreeSet<String> seen = new TreeSet<>();
    for (Field f : face.getDeclaredFields()) {
      if (!Modifier.isPrivate(f.getModifiers())) {
        seen.add(f.toString());
      }
    }
    for (Constructor<?> c : face.getDeclaredConstructors()) {
      if (!Modifier.isPrivate(c.getModifiers())) {
        seen.add(c.toString());
      }
    }
    TreeSet<String> names = new TreeSet<>();
    for (Method m : face.getDeclaredMethods()) {
      if (!Modifier.isPrivate(m.getModifiers())) {
        seen.add(m.toString().replace("java.lang.", ""));
        names.add(m.getName());
      }
    }
    TreeSet<String> want = new TreeSet<>(Arrays.asList(
        "public static final int RingWeaver.NONE",
        "public RingWeaver()",
        "public int RingWeaver.piece(int,int,int,int,int) throws IllegalArgumentException,IllegalStateException,UnsupportedOperationException",
        "public int RingWeaver.clear()",
        "public int RingWeaver.overlay(int) throws IllegalArgumentException,IllegalStateException,UnsupportedOperationException",
        "public int RingWeaver.plan(int) throws IndexOutOfBoundsException",
        "public int RingWeaver.ordinate(int,int) throws IndexOutOfBoundsException",
        "public long RingWeaver.area()",
        "public int RingWeaver.count(int)"));
    Checks.due("the face", want, seen);
    lookInside(face, names);
    Checks.end("FaceTest");
  }

  private static void lookInside(Class<?> face, TreeSet<String> names) {
    for (Class<?> inside : face.getDeclaredClasses()) {
      Checks.due(inside + " is static", true, Modifier.isStatic(inside.getModifiers()));
      Checks.due(inside + " is hidden", false,
          Modifier.isPublic(inside.getModifiers()) || Modifier.isProtected(inside.getModifiers()));
      for (Method m : inside.getDeclaredMethods()) {
        Checks.due(m + " bears a name of the face", false, names.contains(m.getName()));
      }
    }
  }
}
