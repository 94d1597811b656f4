import java.lang.reflect.InvocationTargetException;
import java.lang.reflect.Method;
import java.util.ArrayList;
import java.util.List;
import java.util.Random;

/** No call throws, whatever it is asked, in whatever state; and the same calls answer the same. */
public final class AnyCallTest extends Told {
  private static final int[] ODD = {Integer.MIN_VALUE, Integer.MIN_VALUE + 1, -100001, -400, -3, -2, -1, 0, 1, 2, 3, 4, 5, 6, 7, 9, 10, 11,
    12, 13, 20, 21, 30, 31, 60, 61, 99, 100, 101, 399, 400, 401, 998, 999, 1000, 9999, 10000, Integer.MAX_VALUE - 1, Integer.MAX_VALUE};
  private static final String[] TEXTS = {
    "junction 12 9;road 30 1 0;road 30 1 11;road 0 12 5;road 7 7 7;road 1 2 3;road 9 9 9;clash 0 5;score 11 5;score 0 0",
    "junction 1 1", "junction 3 2;road 4 2 0;road 3 1 4;road 0 3 7;clash 0 2;score 0 0;score 0 1;score 1 2;score 2 1",
    "let wait*wait*wait*wait*99999*99999*99999 - since if not[sound<0 or went%let=beat/hour]",
    "let 0-99999*99999*99999*99999/all%part;let 1", "let 1 if [[[[[[[[[[1=1]]]]]]]]]]", "let 1 if [[[[[[[[[[[1=1]]]]]]]]]]]", "let", ""};

  private static List<Method> face() {
    List<Method> all = new ArrayList<>();
    for (Method m : DutyBeats.class.getDeclaredMethods()) if (java.lang.reflect.Modifier.isPublic(m.getModifiers())) all.add(m);
    all.sort((a, b) -> a.getName().compareTo(b.getName()));
    return all;
  }
  private static int[] run(long seed, int calls) throws IllegalAccessException {
    Random random = new Random(seed);
    List<Method> face = face();
    DutyBeats x = new DutyBeats();
    int[] answers = new int[calls];
    for (int i = 0; i < calls; i++) {
      if (random.nextInt(12) == 0) {
        tell(x, TEXTS[random.nextInt(TEXTS.length)]);
        answers[i] = random.nextBoolean() ? x.junction() : x.rule();
        continue;
      }
      Method m = face.get(random.nextInt(face.size()));
      Object[] given = new Object[m.getParameterCount()];
      for (int k = 0; k < given.length; k++) {
        given[k] = random.nextInt(4) == 0 ? ODD[random.nextInt(ODD.length)] : random.nextInt(3) == 0 ? random.nextInt() : random.nextInt(8);
      }
      try {
        answers[i] = (Integer) m.invoke(x, given);
      } catch (InvocationTargetException e) {
        System.out.println(m.getName() + java.util.Arrays.toString(given) + " threw " + e.getCause());
        System.exit(1);
      }
    }
    return answers;
  }

  public static void main(String[] args) throws Exception {
    for (long seed = 0; seed < 300; seed++) {
      if (!java.util.Arrays.equals(run(seed, 512), run(seed, 512))) {
        System.out.println("seed " + seed + " answers otherwise the second time");
        System.exit(1);
      }
    }
    System.out.println("AnyCallTest: 300 runs of 512 calls end");
  }
}
