import java.lang.reflect.Constructor;
import java.lang.reflect.Field;
import java.lang.reflect.Method;
import java.lang.reflect.Modifier;
import java.util.List;
import java.util.Set;
import java.util.TreeSet;

/** The class has the document's face and no other (LANGUAGE.md, rule 1). */
public final class FaceTest {
  private static final String[] FACE = {
    "feed 5", "end 1", "junction 0", "rule 0", "force 1", "road 2", "scored 1", "beat 0", "come 2", "wave 1", "score 2", "tune 2",
    "undo 0", "ahead 3", "clear 1", "chord 1", "beats 1", "bestScore 2", "row 2", "leastRoom 1", "shut 2", "longest 2", "cadenza 1",
    "rests 4", "ring 1", "pence 2", "note 3", "ruled 1", "look 2", "seed 1", "mornings 4", "count 1", "heard 0", "image 1", "back 1"};
  private static int wrong = 0;

  private static void see(boolean right, String what) {
    if (!right) {
      wrong++;
      System.out.println("FaceTest: " + what);
    }
  }

  private static void face() {
    Class<?> c = DutyBeats.class;
    see(Modifier.isPublic(c.getModifiers()) && Modifier.isFinal(c.getModifiers()), "public and final");
    Set<String> want = new TreeSet<>(List.of(FACE));
    Set<String> names = new TreeSet<>();
    for (String f : FACE) names.add(f.split(" ")[0]);
    Set<String> got = new TreeSet<>();
    for (Method m : c.getDeclaredMethods()) {
      if (Modifier.isPrivate(m.getModifiers())) {
        see(!names.contains(m.getName()), "a private method is called " + m.getName());
        continue;
      }
      got.add(m.getName() + " " + m.getParameterCount());
      see(m.getModifiers() == Modifier.PUBLIC && m.getReturnType() == int.class, m.getName() + " is public int");
      for (Class<?> p : m.getParameterTypes()) see(p == int.class, m.getName() + " takes ints");
    }
    see(got.equals(want), "methods " + got);
    for (Field f : c.getDeclaredFields()) {
      see(Modifier.isPrivate(f.getModifiers()) || f.getName().equals("NONE"), "field " + f.getName());
    }
    Constructor<?>[] made = c.getDeclaredConstructors();
    see(made.length == 1 && made[0].getParameterCount() == 0 && Modifier.isPublic(made[0].getModifiers()), "one constructor");
    for (Class<?> k : c.getDeclaredClasses()) {
      see(Modifier.isStatic(k.getModifiers()), k.getName() + " is static");
      for (Method m : k.getDeclaredMethods()) {
        see(!names.contains(m.getName()), k.getName() + " has a method " + m.getName());
      }
    }
  }

  public static void main(String[] args) {
    face();
    System.out.println("FaceTest: " + wrong + " wrong");
    if (wrong != 0) System.exit(1);
  }
}
