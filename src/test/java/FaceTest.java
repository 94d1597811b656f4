import java.lang.reflect.Constructor;
import java.lang.reflect.Field;
import java.lang.reflect.Method;
import java.lang.reflect.Modifier;
import java.nio.file.Files;
import java.nio.file.Path;
import java.util.ArrayList;
import java.util.List;
import java.util.Set;
import java.util.TreeSet;
import java.util.regex.Matcher;
import java.util.regex.Pattern;

/** The class has the document's face and no other, and its text keeps to what LANGUAGE.md lets stand. */
public final class FaceTest {
  private static final String[] FACE = {
    "feed 5", "end 1", "junction 0", "rule 0", "force 1", "road 2", "scored 1", "beat 0", "come 2", "wave 1", "score 2", "tune 2",
    "undo 0", "ahead 3", "clear 1", "chord 1", "beats 1", "bestScore 2", "row 2", "leastRoom 1", "shut 2", "longest 2", "cadenza 1",
    "rests 4", "ring 1", "pence 2", "note 3", "ruled 1", "look 2", "seed 1", "mornings 4", "count 1", "heard 0", "image 1", "back 1"};
  private static int wrong = 0;

  private static void see(boolean right, String what) {
    if (!right) {
      wrong++;
      System.out.println("FaceTest: " + what);
    }
  }

  private static void face() {
    Class<?> c = DutyBeats.class;
    see(Modifier.isPublic(c.getModifiers()) && Modifier.isFinal(c.getModifiers()), "public and final");
    Set<String> want = new TreeSet<>(List.of(FACE));
    Set<String> names = new TreeSet<>();
    for (String f : FACE) names.add(f.split(" ")[0]);
    Set<String> got = new TreeSet<>();
    for (Method m : c.getDeclaredMethods()) {
      if (Modifier.isPrivate(m.getModifiers())) {
        see(!names.contains(m.getName()), "a private method is called " + m.getName());
        continue;
      }
      got.add(m.getName() + " " + m.getParameterCount());
      see(m.getModifiers() == Modifier.PUBLIC && m.getReturnType() == int.class, m.getName() + " is public int");
      for (Class<?> p : m.getParameterTypes()) see(p == int.class, m.getName() + " takes ints");
    }
    see(got.equals(want), "methods " + got);
    for (Field f : c.getDeclaredFields()) {
      see(Modifier.isPrivate(f.getModifiers()) || f.getName().equals("NONE"), "field " + f.getName());
    }
    Constructor<?>[] made = c.getDeclaredConstructors();
    see(made.length == 1 && made[0].getParameterCount() == 0 && Modifier.isPublic(made[0].getModifiers()), "one constructor");
    for (Class<?> k : c.getDeclaredClasses()) {
      see(Modifier.isStatic(k.getModifiers()), k.getName() + " is static");
      see(k.getDeclaredFields().length < 40, k.getName() + " has few fields");
      for (Method m : k.getDeclaredMethods()) {
        see(!names.contains(m.getName()), k.getName() + " has a method " + m.getName());
        see(m.getParameterCount() <= 7, m.getName() + " takes few");
      }
    }
    see(c.getDeclaredClasses().length <= 12, "classes");
  }

  private static String bare(String source) {
    return source.replaceAll("(?s)/\\*.*?\\*/", " ").replaceAll("//[^\n]*", " ").replaceAll("\"[^\"\n]*\"", "\"\"").replaceAll("'[^'\n]*'", "' '");
  }

  private static void language() throws Exception {
    String source = Files.readString(Path.of("src/main/java/DutyBeats.java"));
    for (int i = 0; i < source.length(); i++) see(source.charAt(i) < 128 && source.charAt(i) != '\t', "sign " + (int) source.charAt(i));
    String text = bare(source);
    for (String no : List.of("throw", "throws", "try", "catch", "synchronized", "assert", "package", "yield", "var", "native", "volatile",
        "hashCode", "toString", "Object", "Exception", "Random", "Thread", "double", "float", "finally")) {
      see(!Pattern.compile("\\b" + no + "\\b").matcher(text).find(), no + " stands in it");
    }
    see(!text.contains("->") && !text.contains("::"), "a lambda or a method reference");
    see(!text.contains("@"), "an annotation");
    Set<String> uses = new TreeSet<>();
    Matcher m = Pattern.compile("\\b(Math|Integer|Long|System|Arrays|Character|String)\\.(\\w+)").matcher(text);
    while (m.find()) uses.add(m.group());
    List<String> fine = new ArrayList<>(List.of("Math.min", "Math.max", "Math.abs", "Integer.bitCount", "Integer.numberOfTrailingZeros",
        "System.arraycopy", "Arrays.fill", "Arrays.copyOf"));
    uses.removeAll(fine);
    see(uses.isEmpty(), "the library's " + uses);
    Matcher i = Pattern.compile("import ([\\w.]+);").matcher(text);
    while (i.find()) see(i.group(1).equals("java.util.Arrays"), i.group());
    methodsAreShort(source);
  }

  private static void methodsAreShort(String source) {
    String[] lines = source.split("\n");
    int from = -1;
    for (int i = 0; i < lines.length; i++) {
      if (lines[i].matches("( {4}| {8})(public |private |static |abstract )*[\\w\\[\\]]+ ?\\w*\\([^;]*\\) \\{")) from = i;
      if (from >= 0 && lines[i].matches(" {4}\\}| {8}\\}")) {
        see(i - from <= 60, "a method of " + (i - from) + " lines: " + lines[from]);
        from = -1;
      }
    }
  }

  public static void main(String[] args) throws Exception {
    face();
    language();
    System.out.println("FaceTest: " + wrong + " wrong");
    if (wrong != 0) System.exit(1);
  }
}
