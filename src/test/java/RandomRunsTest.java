import java.util.Random;

/** Runs of drawn calls on a DutyBeats and on the Oracle: every answer is the same. */
public final class RandomRunsTest {
  private static final String[] VALUES = {"road", "wait", "every", "part", "scored", "let", "sound", "since", "went", "all", "beat", "hour"};
  private static final String[] SIGNS = {"<", "<=", "=", ">=", ">"};
  private static final String ODD = "abcz09 ;[]<>=+-*/%ABZ~\u0000\u00ff\t.,(){}";

  private final Random random;
  private DutyBeats x = new DutyBeats();
  private Oracle o = new Oracle();
  private final StringBuilder log = new StringBuilder();
  private int wrong = 0;

  private RandomRunsTest(long seed) { random = new Random(seed); }

  private int upTo(int most) { return random.nextInt(most + 1); }
  private boolean oneIn(int n) { return random.nextInt(n) == 0; }
  /** Mostly within the two, at times beside them or far away. */
  private int near(int least, int most) {
    if (oneIn(40)) return new int[] {Integer.MIN_VALUE, Integer.MAX_VALUE, -1, -2, 1000}[upTo(4)];
    if (oneIn(20)) return least - 1;
    if (oneIn(20)) return most + 1;
    return least + upTo(most - least);
  }

  private void due(String call, int got, int want) {
    log.append(call).append(" = ").append(want).append('\n');
    if (got != want) {
      wrong++;
      System.out.println(call + " answered " + got + ", due is " + want);
    }
  }

  private String gap() { return oneIn(8) ? "  " : oneIn(12) ? "   " : " "; }
  private String maybe() { return oneIn(2) ? "" : " "; }

  private String junctionText() {
    int bar = 1 + upTo(11);
    StringBuilder t = new StringBuilder(maybe()).append("junction").append(maybe()).append(bar).append(gap()).append(1 + upTo(8));
    int roads = oneIn(3) ? upTo(8) : 1 + upTo(5);
    int told = 0;
    int clauses = upTo(oneIn(10) ? 45 : 24);
    for (int i = 0; i < clauses || told < roads; i++) {
      t.append(maybe()).append(';').append(maybe());
      if (told < roads && (told == 0 || !oneIn(4))) {
        t.append("road").append(maybe()).append(near(0, oneIn(2) ? 5 : 30) & 31).append(gap()).append(1 + upTo(11)).append(gap()).append(upTo(11));
        told++;
      } else if (oneIn(3)) {
        t.append("clash ").append(upTo(Math.max(0, told - 1))).append(gap()).append(upTo(Math.max(0, told - 1)));
      } else {
        t.append("score ").append(upTo(bar - 1)).append(gap()).append(upTo(Math.max(0, told - 1)));
      }
    }
    return t.toString();
  }
  private String goodJunction() {
    int bar = 1 + upTo(oneIn(2) ? 3 : 11);
    StringBuilder t = new StringBuilder("junction ").append(bar).append(' ').append(1 + upTo(oneIn(2) ? 2 : 8));
    int roads = oneIn(12) ? 0 : 1 + upTo(5);
    for (int r = 0; r < roads; r++) {
      t.append(";road ").append(upTo(oneIn(2) ? 5 : 30)).append(' ').append(1 + upTo(oneIn(2) ? 3 : 11)).append(' ').append(upTo(11));
    }
    for (int i = upTo(7); i > 0 && roads > 1; i--) {
      int a = upTo(roads - 1);
      int b = (a + 1 + upTo(roads - 2)) % roads;
      t.append(";clash ").append(a).append(' ').append(b);
    }
    for (int a = 1, most = oneIn(6) ? 5 : 0; a < roads && a <= most; a++) {
      for (int b = 0; b < a; b++) if (!oneIn(8)) t.append(";clash ").append(a).append(' ').append(b);
    }
    for (int i = upTo(14); i > 0 && roads > 0; i--) t.append(";score ").append(upTo(bar - 1)).append(' ').append(upTo(roads - 1));
    return t.toString();
  }
  private String value() {
    if (oneIn(3)) return String.valueOf(oneIn(8) ? upTo(99999) : upTo(9));
    return VALUES[upTo(11)];
  }
  private String sum(int most) {
    StringBuilder t = new StringBuilder(value());
    for (int i = upTo(most); i > 0; i--) t.append(maybe()).append("+-*/%".charAt(upTo(4))).append(maybe()).append(value());
    return t.toString();
  }
  private String test(int deep) {
    StringBuilder t = new StringBuilder(fact(deep));
    for (int i = upTo(2); i > 0; i--) t.append(oneIn(2) ? " and " : " or ").append(fact(deep));
    return t.toString();
  }
  private String fact(int deep) {
    if (deep > 0 && oneIn(4)) return "not " + fact(deep - 1);
    if (deep > 0 && oneIn(3)) return "[" + maybe() + test(deep - 1) + maybe() + "]";
    return sum(1) + maybe() + SIGNS[upTo(4)] + maybe() + sum(1);
  }
  private String ruleText() {
    if (oneIn(12)) return edgeRule();
    StringBuilder t = new StringBuilder();
    int clauses = oneIn(12) ? 11 + upTo(2) : 1 + upTo(3);
    for (int i = 0; i < clauses; i++) {
      t.append(i > 0 ? ";" : "").append(maybe()).append("let ").append(sum(clauses > 4 ? 1 : 3));
      if (oneIn(2)) t.append(" if ").append(test(clauses > 4 ? 0 : oneIn(8) ? 11 : 2));
    }
    return t.toString();
  }
  /** Around 10 deep and 60 VALUES and FACTS. */
  private String edgeRule() {
    StringBuilder t = new StringBuilder("let 1");
    if (oneIn(2)) {
      int deep = 8 + upTo(3);
      t.append(" if ");
      StringBuilder shut = new StringBuilder();
      for (int i = 0; i < deep; i++) {
        boolean not = oneIn(2);
        t.append(not ? "not " : "[");
        shut.append(not ? "" : "]");
      }
      return t.append("wait>0").append(shut).toString();
    }
    if (oneIn(2)) {
      for (int i = 55 + upTo(6); i > 0; i--) t.append("+").append(value());
      return t.toString();
    }
    t.append(" if wait>1");
    for (int i = 17 + upTo(3); i > 0; i--) t.append(oneIn(2) ? " or " : " and ").append("1=").append(oneIn(40) ? "123456" : "1");
    for (int i = upTo(3); i > 0; i--) t.append("+1");
    return t.toString();
  }
  private String bent(String text) {
    StringBuilder t = new StringBuilder(text);
    for (int i = 1 + upTo(1); i > 0; i--) {
      int at = t.length() == 0 ? 0 : upTo(t.length() - 1);
      switch (upTo(4)) {
        case 0: if (t.length() > 0) t.deleteCharAt(at); break;
        case 1: t.insert(at, ODD.charAt(upTo(ODD.length() - 1))); break;
        case 2: if (t.length() > 0) t.setCharAt(at, ODD.charAt(upTo(ODD.length() - 1))); break;
        case 3: t.setLength(at); break;
        default: t.insert(at, new String[] {" not ", "[", "]", "123456", "00000", " let ", ";", " if ", "junction 1 1;", "<="}[upTo(9)]); break;
      }
    }
    return t.toString();
  }

  private void tell(String text) {
    if (!oneIn(12)) due("end(0)", x.end(0), o.end(0));
    for (int at = 0; at < text.length(); at += 20) {
      int[] v = Told.twenty(text, at);
      due("feed " + text, x.feed(v[0], v[1], v[2], v[3], v[4]), o.feed(v[0], v[1], v[2], v[3], v[4]));
    }
    if (!oneIn(20)) due("end(" + text.length() + ")", x.end(text.length()), o.end(text.length()));
  }

  private void act() {
    int r = near(0, Math.max(0, o.count(2) - 1));
    int b = near(0, Math.max(0, o.count(0) - 1));
    int v;
    switch (upTo(9)) {
      case 0: v = near(1, 20); due("come(" + r + "," + v + ")", x.come(r, v), o.come(r, v)); break;
      case 1: due("wave(" + r + ")", x.wave(r), o.wave(r)); break;
      case 2: due("score(" + b + "," + r + ")", x.score(b, r), o.score(b, r)); break;
      case 3: v = near(0, 11); due("tune(" + r + "," + v + ")", x.tune(r, v), o.tune(r, v)); break;
      case 4: due("undo()", x.undo(), o.undo()); break;
      default: due("beat()", x.beat(), o.beat()); break;
    }
  }
  private void change() {
    int v;
    switch (upTo(6)) {
      case 0: v = near(-1, o.rules.size() - 1); due("force(" + v + ")", x.force(v), o.force(v)); break;
      case 1: v = near(0, 3); due("image(" + v + ")", x.image(v), o.image(v)); break;
      case 2: v = near(0, 3); due("back(" + v + ")", x.back(v), o.back(v)); break;
      case 3: v = random.nextInt(); due("seed(" + v + ")", x.seed(v), o.seed(v)); break;
      case 4: if (oneIn(6)) due("note(-1)", x.note(-1, 0, 0), o.note(-1, 0, 0)); break;
      default: {
        int n = near(0, 60);
        int r = near(0, Math.max(0, o.count(2) - 1));
        v = trueNote(n, r);
        due("note(" + n + "," + r + "," + v + ")", x.note(n, r, v), o.note(n, r, v));
      }
    }
  }
  /** Mostly what went in that BEAT by one of the RULES, so that some stay so. */
  private int trueNote(int n, int r) {
    if (oneIn(6) || o.told == null || n < 0 || n > 60 || r < 0 || r > 5) return near(0, 9);
    int k = upTo(o.rules.size()) - 1;
    Oracle.State s = o.told.copy();
    for (int i = 0; i <= n; i++) s.step(k < 0 ? null : o.rules.get(k));
    return s.gone[r];
  }
  private void ask() {
    int r = near(0, Math.max(0, o.count(2) - 1));
    int n, w;
    switch (upTo(17)) {
      case 0: n = near(0, 100); w = near(0, 2); due("ahead(" + r + "," + n + "," + w + ")", x.ahead(r, n, w), o.ahead(r, n, w)); break;
      case 1: due("clear(" + r + ")", x.clear(r), o.clear(r)); break;
      case 2: w = near(0, 1); due("chord(" + w + ")", x.chord(w), o.chord(w)); break;
      case 3: w = near(-1, 5); due("beats(" + w + ")", x.beats(w), o.beats(w)); break;
      case 4: n = near(1, 30); w = near(0, 2); due("bestScore(" + n + "," + w + ")", x.bestScore(n, w), o.bestScore(n, w)); break;
      case 5: n = rowBeats(); w = near(0, 4); due("row(" + n + "," + w + ")", x.row(n, w), o.row(n, w)); break;
      case 6: n = near(1, 60); due("leastRoom(" + n + ")", x.leastRoom(n), o.leastRoom(n)); break;
      case 7: n = near(1, 60); w = near(0, 1); due("shut(" + n + "," + w + ")", x.shut(n, w), o.shut(n, w)); break;
      case 8: n = near(1, 100); w = near(0, 2); due("longest(" + n + "," + w + ")", x.longest(n, w), o.longest(n, w)); break;
      case 9: due("cadenza(" + r + ")", x.cadenza(r), o.cadenza(r)); break;
      case 10: {
        int q = near(0, Math.max(0, o.count(2) - 1));
        n = near(1, 20); w = near(0, 2);
        due("rests(" + r + "," + q + "," + n + "," + w + ")", x.rests(r, q, n, w), o.rests(r, q, n, w));
        break;
      }
      case 11: w = near(0, 1); due("ring(" + w + ")", x.ring(w), o.ring(w)); break;
      case 12: n = near(0, 9999); due("pence(" + n + "," + r + ")", x.pence(n, r), o.pence(n, r)); break;
      case 13: w = near(0, 1); due("ruled(" + w + ")", x.ruled(w), o.ruled(w)); break;
      case 14: n = near(0, 60); w = near(0, 1); due("look(" + n + "," + w + ")", x.look(n, w), o.look(n, w)); break;
      case 15: {
        int m = near(1, 10), p = near(0, 100);
        n = near(1, 60); w = near(0, 1);
        due("mornings(" + m + "," + n + "," + p + "," + w + ")", x.mornings(m, n, p, w), o.mornings(m, n, p, w));
        break;
      }
      default: see();
    }
  }
  private int rowBeats() {
    int n = near(1, 3);
    if (n != 3 || o.now == null) return n;
    int sets = 0;
    for (int b = 0; b < 1 << o.count(2); b++) if (o.now.peaceful(Oracle.list(b))) sets++;
    return sets > 24 && !oneIn(20) ? 2 : n;
  }
  private void see() {
    for (int w = -1; w <= 14; w++) due("count(" + w + ")", x.count(w), o.count(w));
    due("heard()", x.heard(), o.heard());
    int r = near(0, 5);
    for (int w = -1; w <= 7; w++) due("road(" + r + "," + w + ")", x.road(r, w), o.road(r, w));
    int b = near(0, 11);
    due("scored(" + b + ")", x.scored(b), o.scored(b));
  }

  /** So many wait, and so long, that 999, 99999 and 9999 are met. */
  private void crowd() {
    for (int r = 0; r < 6; r++) {
      for (int i = 0; i < 50; i++) due("come(" + r + ",20)", x.come(r, 20), o.come(r, 20));
    }
    for (int i = 0; i < 600 && wrong == 0; i++) {
      due("beat()", x.beat(), o.beat());
      if (i % 20 == 0) { ask(); see(); }
    }
  }

  private void run(int calls) {
    if (!oneIn(10)) {
      tell(goodJunction());
      due("junction()", x.junction(), o.junction());
    }
    for (int i = 0; i < calls && wrong == 0; i++) {
      int k = upTo(99);
      if (k < 6 && oneIn(4)) {
        tell(oneIn(3) ? bent(junctionText()) : oneIn(4) ? junctionText() : goodJunction());
        due("junction()", x.junction(), o.junction());
      } else if (k < 16 && o.rules.size() < 6 || k == 16) {
        String text = ruleText();
        tell(oneIn(3) ? bent(text) : text);
        due("rule()", x.rule(), o.rule());
        if (oneIn(2)) { int f = o.rules.size() - 1; due("force(" + f + ")", x.force(f), o.force(f)); }
      } else if (k < 50) {
        act();
      } else if (k < 60) {
        change();
      } else {
        ask();
      }
    }
  }

  /** Texts alone: their FAULTS. */
  private void texts(int many) {
    for (int i = 0; i < many && wrong == 0; i++) {
      if (o.rules.size() > 4) { x = new DutyBeats(); o = new Oracle(); log.setLength(0); }
      String text = oneIn(2) ? junctionText() : ruleText();
      for (int k = upTo(2); k > 0; k--) text = bent(text);
      tell(text);
      if (oneIn(2) == text.startsWith("let")) due("junction()", x.junction(), o.junction());
      else due("rule()", x.rule(), o.rule());
    }
  }

  public static void main(String[] args) {
    int runs = args.length > 0 ? Integer.parseInt(args[0]) : 150;
    long from = args.length > 1 ? Long.parseLong(args[1]) : 0;
    for (long seed = from; seed < from + runs; seed++) {
      RandomRunsTest t = new RandomRunsTest(seed);
      if (seed % 5 == 0) t.texts(2000); else t.run(250);
      if (seed % 10 == 1) t.crowd();
      if (t.wrong > 0) {
        System.out.println("seed " + seed + ":\n" + t.log);
        System.exit(1);
      }
    }
    System.out.println("RandomRunsTest: " + runs + " runs are as due");
  }
}
