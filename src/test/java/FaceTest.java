import java.lang.reflect.Constructor;
import java.lang.reflect.Field;
import java.lang.reflect.Method;
import java.lang.reflect.Modifier;
import java.util.Arrays;
import java.util.TreeSet;

/** The public face is the document's, and nothing else can be seen from outside. */
public final class FaceTest {
  private static final String[] METHODS = {
    "feed1", "street0", "fault0", "told1", "field2", "height2", "house2", "seam2", "step1", "hold1", "roll1",
    "slack2", "drift1", "undo1", "cracks1", "worst0", "water2", "mill2", "bestMill0", "soonest2", "least4",
    "open1", "longest1", "hear2", "began1", "watch0", "see3", "rounds2", "cellars2", "sluices3", "odds4",
    "write1", "judge1", "tear0", "seed1", "keep1", "goBack1"};
  private static final String[] CONSTANTS = {"NONE", "UNKNOWN", "OUTSIDE", "NOT", "FULL"};

  public static void main(String[] args) {
    Checks c = new Checks();
    c.due("public final", BreathStreet.class.getModifiers() & (Modifier.PUBLIC | Modifier.FINAL), Modifier.PUBLIC | Modifier.FINAL);
    c.due("NONE", BreathStreet.NONE, -1);
    c.due("UNKNOWN", BreathStreet.UNKNOWN, -1000000001);
    c.due("OUTSIDE", BreathStreet.OUTSIDE, -1000000002);
    c.due("NOT", BreathStreet.NOT, -1000000003);
    c.due("FULL", BreathStreet.FULL, -1000000004);
    methods(c);
    fields(c);
    Constructor<?>[] made = BreathStreet.class.getDeclaredConstructors();
    c.due("constructors", made.length, 1);
    c.due("constructor's parameters", made[0].getParameterCount(), 0);
    c.due("constructor is public", made[0].getModifiers() & Modifier.PUBLIC, Modifier.PUBLIC);
    inside(c);
    c.finish();
  }

  private static void methods(Checks c) {
    TreeSet<String> seen = new TreeSet<>();
    TreeSet<String> names = new TreeSet<>();
    for (Method m : BreathStreet.class.getDeclaredMethods()) {
      if (Modifier.isPublic(m.getModifiers())) {
        seen.add(m.getName() + m.getParameterCount());
        names.add(m.getName());
        c.same(m.getName() + " answers", m.getReturnType().getName(), "int");
      }
    }
    c.same("methods", seen.toString(), new TreeSet<>(Arrays.asList(METHODS)).toString());
    for (Method m : BreathStreet.class.getDeclaredMethods()) {
      if (!Modifier.isPublic(m.getModifiers()) && !m.isSynthetic()) {
        c.due(m.getName() + " is private", m.getModifiers() & Modifier.PRIVATE, Modifier.PRIVATE);
        c.due(m.getName() + " has a name of its own", names.contains(m.getName()) ? 1 : 0, 0);
      }
    }
  }

  private static void fields(Checks c) {
    TreeSet<String> seen = new TreeSet<>();
    for (Field f : BreathStreet.class.getDeclaredFields()) {
      boolean isPublic = Modifier.isPublic(f.getModifiers());
      if (isPublic) {
        seen.add(f.getName());
      }
      c.due(f.getName() + " is public or private", isPublic || Modifier.isPrivate(f.getModifiers()) ? 1 : 0, 1);
      if (Modifier.isStatic(f.getModifiers())) {
        c.due(f.getName() + " is final", f.getModifiers() & Modifier.FINAL, Modifier.FINAL);
      }
    }
    c.same("constants", seen.toString(), new TreeSet<>(Arrays.asList(CONSTANTS)).toString());
  }

  private static void inside(Checks c) {
    Class<?>[] parts = BreathStreet.class.getDeclaredClasses();
    c.due("at most some twelve classes", parts.length <= 12 ? 1 : 0, 1);
    for (Class<?> part : parts) {
      c.due(part.getName() + " is static", part.getModifiers() & Modifier.STATIC, Modifier.STATIC);
      c.due(part.getName() + " is not public", part.getModifiers() & (Modifier.PUBLIC | Modifier.PROTECTED), 0);
      for (Method m : part.getDeclaredMethods()) {
        boolean isFace = Arrays.stream(METHODS).anyMatch(face -> face.replaceAll("\\d", "").equals(m.getName()));
        c.due(part.getName() + "." + m.getName() + " has a name of its own", isFace ? 1 : 0, 0);
      }
    }
  }
}
