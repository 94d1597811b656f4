import java.io.IOException;
import java.lang.reflect.InvocationTargetException;
import java.lang.reflect.Method;
import java.lang.reflect.Modifier;
import java.nio.file.Files;
import java.nio.file.Path;
import java.util.Arrays;
import java.util.BitSet;
import java.util.Comparator;
import java.util.function.Supplier;
import java.util.function.ToIntFunction;
import java.util.regex.Matcher;
import java.util.regex.Pattern;

/**
 * What the tests of boundaries share: each of their methods is the test of one sentence of the document,
 * which it quotes, with the promise that it belongs to. A quote that the document does not have is wrong,
 * and so is a boundary of the document that none quotes.
 */
abstract class Sentences extends Told {
  /** Words by which the document tells that something is a boundary. */
  private static final Pattern BOUNDARY = Pattern.compile("-\\d+|\\d+ (to|deep|bytes|calls)|" + words("at most", "at least", "NONE", "none",
      "nobody", "nothing", "never", "without", "below", "above", "beyond", "too many", "empty", "others", "fewest", "downwards", "least",
      "most", "first", "last", "round", "unlike", "several", "rest of", "once", "all stays", "told already", "can be", "more than"));
  private static final String DOCUMENT = read();
  private static final BitSet QUOTED = new BitSet();
  private static int promise = 0;
  private static String quote = "";
  private static int asked = 0;
  static int sentences = 0;
  static int wrong = 0;

  private static String words(String... words) { return "\\b(" + String.join("|", words) + ")\\b"; }
  private static String read() {
    try {
      return Files.readString(Path.of("../shared/DOC.md"));
    } catch (IOException e) {
      throw new IllegalStateException("the document is looked for from the project's folder", e);
    }
  }

  private static void say(String what) {
    wrong++;
    System.out.println("promise " + promise + ", \"" + quote + "\": " + what);
  }

  /** Names what the test is of. The same words may stand in several promises: that promise's own count first. */
  static void sentence(int ofPromise, String words) {
    promise = ofPromise;
    quote = words;
    sentences++;
    int own = DOCUMENT.indexOf("## Promise " + ofPromise + ":");
    int end = Math.max(own, DOCUMENT.indexOf("\n## ", own));
    int at = own < 0 ? -1 : DOCUMENT.indexOf(words, own);
    if (at < 0 || at >= end) at = DOCUMENT.indexOf(words);
    if (own < 0 || at < 0) say("the document has no such promise or sentence");
    else QUOTED.set(at, at + words.length());
  }
  static void due(String what, int got, int want) {
    asked++;
    if (got != want) say(what + " answered " + got + ", due is " + want);
  }
  static void due(String what, int[] got, int... want) {
    asked++;
    if (!Arrays.equals(got, want)) say(what + " answered " + Arrays.toString(got) + ", due is " + Arrays.toString(want));
  }
  static int[] row(int... numbers) { return numbers; }

  /** The call answers so, and all that can be seen of the object is as it is without the call. */
  static void still(String what, Supplier<DutyBeats> made, ToIntFunction<DutyBeats> call, int want) {
    DutyBeats x = made.get();
    due(what, call.applyAsInt(x), want);
    String without = trace(made.get());
    String with = trace(x);
    if (!with.equals(without)) say(what + " changes something:\n  " + with + "\n  " + without);
  }
  /** All that can be seen of an object, some 200 calls of it: what is, what can be UNDONE, the text, the IMAGES. */
  static String trace(DutyBeats x) {
    StringBuilder t = new StringBuilder();
    for (int what = 0; what <= 13; what++) t.append(x.count(what)).append(' ');
    t.append(x.heard());
    for (int road = 0; road < 6; road++) for (int what = 0; what <= 6; what++) t.append(what == 0 ? "; " : " ").append(x.road(road, what));
    t.append(" score");
    for (int beat = 0; beat < 12; beat++) t.append(' ').append(x.scored(beat));
    t.append(" ruled ").append(x.ruled(0)).append(' ').append(x.ruled(1)).append(" undo");
    for (int i = 0; i < 21; i++) t.append(' ').append(x.undo()).append(':').append(x.count(7)).append(':').append(x.count(9)).append(':').append(x.heard());
    for (int k = 0; k < 4; k++) {
      t.append(" back ").append(x.back(k));
      for (int what : new int[] {2, 4, 7, 10, 12}) t.append(':').append(x.count(what));
    }
    return t.toString();
  }

  /** Something of everything: three ROADS in BEAT 2, 2 RULES, one NOTE, six ACTS, IMAGES 0 and 2, 20 bytes. */
  static DutyBeats busy() {
    DutyBeats x = at(SMALL, "let 1 if wait>1", "let scored");
    x.image(2);
    x.beat();
    x.come(0, 3);
    x.force(1);
    x.beat();
    x.wave(1);
    x.tune(2, 9);
    x.score(1, 0);
    x.note(0, 0, 2);
    x.seed(77);
    x.image(0);
    x.feed(1, 2, 3, 4, 5);
    return x;
  }
  static DutyBeats empty() { return new DutyBeats(); }

  /** ^ marks the place of the FAULT, and is not told. */
  static int faultAt(String marked, int kind) { return -2 - (1 + 8 * marked.indexOf('^') + kind); }
  static String bare(String marked) {
    int place = marked.indexOf('^');
    return place < 0 ? marked : marked.substring(0, place) + marked.substring(place + 1);
  }
  static void junctionFault(String marked, int kind) {
    DutyBeats x = new DutyBeats();
    tell(x, bare(marked));
    due("junction of " + marked, x.junction(), faultAt(marked, kind));
  }
  static DutyBeats junctionStands(String text, int roads) {
    DutyBeats x = new DutyBeats();
    tell(x, text);
    due("junction of " + text, x.junction(), roads);
    return x;
  }
  static void ruleFault(String marked, int kind) {
    DutyBeats x = new DutyBeats();
    tell(x, bare(marked));
    due("rule of " + marked, x.rule(), faultAt(marked, kind));
  }
  static void ruleStands(String text) {
    DutyBeats x = new DutyBeats();
    tell(x, text);
    due("rule of " + text, x.rule(), 0);
  }
  /** What a RULE lets in on the first BEAT of a JUNCTION. */
  static void letsIn(String junction, String rule, int set) {
    due(rule + " lets in", forced(junction, rule).beat(), set);
  }

  /** Every method without arguments is the test of a sentence. */
  static void runAll(Class<?> tests) {
    Method[] methods = tests.getDeclaredMethods();
    Arrays.sort(methods, Comparator.comparing(Method::getName));
    for (Method m : methods) {
      if (m.isSynthetic() || m.getParameterCount() > 0 || m.getReturnType() != void.class || !Modifier.isStatic(m.getModifiers())) continue;
      int before = sentences;
      asked = 0;
      m.setAccessible(true);
      try {
        m.invoke(null);
      } catch (IllegalAccessException | InvocationTargetException e) {
        say(m.getName() + " ended with " + e.getCause());
      }
      if (sentences != before + 1 || asked == 0) say(m.getName() + " is not the test of one sentence");
    }
  }

  /** Every boundary that Terms and promises name stands in a sentence that was quoted. */
  static void allAreQuoted() {
    int from = DOCUMENT.indexOf("An object is used");
    for (String part : new String[] {"## The public face", "## Terms", "## Not promised"}) {
      int to = DOCUMENT.indexOf(part);
      if (!part.equals("## Terms")) namesAreQuoted(from, to);
      from = to;
    }
  }
  private static void namesAreQuoted(int from, int to) {
    Matcher m = BOUNDARY.matcher(DOCUMENT).region(from, to);
    while (m.find()) {
      if (QUOTED.nextClearBit(m.start()) < m.end()) {
        wrong++;
        String around = DOCUMENT.substring(Math.max(from, m.start() - 60), Math.min(to, m.end() + 60)).replace('\n', ' ');
        System.out.println("no test quotes \"" + m.group() + "\" in: " + around);
      }
    }
  }
}
