import java.lang.management.ManagementFactory;
import java.lang.reflect.Array;
import java.lang.reflect.Field;
import java.lang.reflect.Modifier;
import java.util.ArrayDeque;
import java.util.Deque;
import java.util.IdentityHashMap;
import java.util.Map;

/** What an object holds is little, and no call but rule() makes anything: all of a run live in one room. */
public final class RoomTest extends Told {
  /** A run of 512 calls that were all new objects would still fit into 600,000 objects and 7.3 million elements. */
  private static final int MOST_OBJECTS = 600_000 / 512;
  private static final int MOST_ELEMENTS = 7_300_000 / 512;

  /** What the machine itself may make by the way, far below one small row for each of the calls. */
  private static final long MOST_BYTES = 4096;
  private static final int TIMES = 2000;

  private static int wrong = 0;

  private static void see(boolean right, String what) {
    if (right) return;
    wrong++;
    System.out.println("RoomTest: " + what);
  }

  private static int[] held(Object root) throws IllegalAccessException {
    Map<Object, Boolean> met = new IdentityHashMap<>();
    Deque<Object> open = new ArrayDeque<>();
    met.put(root, true);
    open.add(root);
    int elements = 0;
    while (!open.isEmpty()) {
      Object o = open.remove();
      if (o.getClass().isArray()) {
        elements += Array.getLength(o);
        if (!o.getClass().getComponentType().isPrimitive()) for (Object part : (Object[]) o) meet(part, met, open);
        continue;
      }
      for (Class<?> c = o.getClass(); c != Object.class; c = c.getSuperclass()) {
        for (Field f : c.getDeclaredFields()) {
          if (Modifier.isStatic(f.getModifiers())) continue;
          elements++;
          f.setAccessible(true);
          if (!f.getType().isPrimitive()) meet(f.get(o), met, open);
        }
      }
    }
    return new int[] {met.size(), elements};
  }
  private static void meet(Object part, Map<Object, Boolean> met, Deque<Object> open) {
    if (part != null && met.put(part, true) == null) open.add(part);
  }

  private static DutyBeats full() {
    DutyBeats x = at("junction 12 9;road 30 1 0;road 30 1 11;road 0 12 5;road 7 7 7;road 1 2 3;road 9 9 9;clash 0 5;score 11 5;score 0 0",
        "let 1" + times("+wait", 59), "let sound", "let since", "let 1 if " + times("not ", 10) + "wait>2", "let 1;" + "let 2", "let all - went");
    for (int k = 0; k < 4; k++) x.image(k);
    for (int i = 0; i < 10; i++) x.note(i, 0, 9);
    x.force(1);
    return x;
  }

  private static int each(DutyBeats x) {
    int sum = x.feed(1, 2, 3, 4, 5) + x.end(3) + x.force(1) + x.road(0, 6) + x.scored(0) + x.beat() + x.come(0, 9) + x.wave(0);
    sum += x.score(0, 0) + x.tune(0, 0) + x.undo() + x.ahead(0, 9, 0) + x.clear(0) + x.chord(1) + x.beats(0) + x.bestScore(1, 0);
    sum += x.row(1, 0) + x.leastRoom(2) + x.shut(2, 0) + x.longest(2, 0) + x.cadenza(0) + x.rests(0, 1, 1, 0) + x.ring(0);
    sum += x.pence(99, 0) + x.note(0, 0, 9) + x.ruled(0) + x.look(3, 0) + x.seed(1) + x.mornings(1, 2, 50, 0) + x.count(9) + x.heard();
    sum += x.image(1) + x.back(1) + x.junction();
    return sum;
  }

  public static void main(String[] args) throws Exception {
    int[] held = held(full());
    see(held[0] <= MOST_OBJECTS && held[1] <= MOST_ELEMENTS, "an object is " + held[0] + " objects of " + held[1] + " elements");
    DutyBeats x = full();
    com.sun.management.ThreadMXBean thread = (com.sun.management.ThreadMXBean) ManagementFactory.getThreadMXBean();
    int sum = each(x);
    thread.getCurrentThreadAllocatedBytes();
    long before = thread.getCurrentThreadAllocatedBytes();
    for (int i = 0; i < TIMES; i++) sum += each(x);
    long made = thread.getCurrentThreadAllocatedBytes() - before;
    see(made <= MOST_BYTES, TIMES + " times each call made " + made + " bytes");
    System.out.println("RoomTest: " + held[0] + " objects, " + held[1] + " elements, " + made + " bytes by calls (sum " + sum + "), " + wrong + " wrong");
    if (wrong != 0) System.exit(1);
  }
}
