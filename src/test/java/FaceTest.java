import java.lang.reflect.Constructor;
import java.lang.reflect.Field;
import java.lang.reflect.Method;
import java.lang.reflect.Modifier;
import java.util.Arrays;
import java.util.Set;
import java.util.TreeSet;
import java.util.stream.Collectors;

/** The face that the document prints, and what LANGUAGE.md says of members (its rules 1 and 5). */
public final class FaceTest {
  private static final String BAD = "IllegalArgumentException";
  private static final String STATE = "IllegalStateException";
  private static final String INDEX = "IndexOutOfBoundsException";
  private static final String[] FACE = {
    "long angle(int,int) " + BAD,
    "int floatBits(int,int) " + BAD,
    "long axisBits(int,int) " + BAD + "," + STATE,
    "int quarter(int,int) " + BAD,
    "int order(int,int,int,int) " + BAD,
    "boolean isMirrored(int,int) " + BAD,
    "boolean isQuotient(int,int) " + BAD + "," + STATE,
    "boolean isReduced(int,int) " + BAD,
    "int mark(int,int) " + BAD + "," + STATE,
    "int take(int) " + INDEX,
    "int markAt(int) " + INDEX,
    "int marks() ",
    "int inSector(int,int,int,int) " + BAD,
    "int opposites() ",
    "boolean isOneSided() ",
    "long sum() ",
    "int corner(int,int) " + BAD + "," + STATE,
    "boolean shift(int,int,int) " + INDEX + "," + BAD,
    "int drop() NoSuchElementException",
    "boolean isOn(int,int) " + BAD,
    "int winding(int,int) " + BAD + "," + STATE,
    "int turning() " + STATE,
    "int hull() " + STATE,
    "int hullCorner(int) " + STATE + "," + INDEX,
    "boolean isTrue() ",
    "long checksum() ",
  };

  public static void main(String[] args) {
    Class<?> face = Bearingrose.class;
    Set<String> open = new TreeSet<>();
    Set<String> names = new TreeSet<>();
    for (Method m : face.getDeclaredMethods()) {
      if (Modifier.isPrivate(m.getModifiers()) || m.isSynthetic()) continue;
      open.add(signature(m));
      names.add(m.getName());
      Check.holds(m.getName() + " is public and of the object",
          Modifier.isPublic(m.getModifiers()) && !Modifier.isStatic(m.getModifiers()));
    }
    Check.due("the face", new TreeSet<>(Arrays.asList(FACE)), () -> open);
    Check.holds("public and final",
        Modifier.isPublic(face.getModifiers()) && Modifier.isFinal(face.getModifiers()));
    Constructor<?>[] constructors = face.getDeclaredConstructors();
    Check.holds("one public constructor without arguments", constructors.length == 1
        && Modifier.isPublic(constructors[0].getModifiers())
        && constructors[0].getParameterCount() == 0);
    for (Field f : face.getDeclaredFields()) {
      Check.holds(f.getName() + " is private", Modifier.isPrivate(f.getModifiers()));
    }
    check(face, names);
    for (Class<?> inside : face.getDeclaredClasses()) check(inside, names);
    Check.end("FaceTest");
  }

  private static String list(Class<?>[] types) {
    return Arrays.stream(types).map(Class::getSimpleName).collect(Collectors.joining(","));
  }

  private static String signature(Method m) {
    return m.getReturnType().getSimpleName() + " " + m.getName() + "(" + list(m.getParameterTypes()) + ") "
        + list(m.getExceptionTypes());
  }

  private static void check(Class<?> type, Set<String> names) {
    for (Method m : type.getDeclaredMethods()) {
      boolean isOfFace = type == Bearingrose.class && Modifier.isPublic(m.getModifiers());
      Check.holds(m + " bears no public one's name", isOfFace || !names.contains(m.getName()));
      Check.holds(m + " takes at most seven", m.getParameterCount() <= 7);
    }
    for (Field f : type.getDeclaredFields()) {
      if (!Modifier.isStatic(f.getModifiers())) continue;
      Check.holds(f + " is a constant", Modifier.isFinal(f.getModifiers())
          && (f.getType() == int.class || f.getType() == long.class));
    }
  }
}
