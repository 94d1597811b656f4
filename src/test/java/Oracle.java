import java.util.ArrayDeque;
import java.util.ArrayList;
import java.util.Deque;
import java.util.List;
import java.util.Map;
import java.util.TreeMap;

/**
 * The document told a second time, slowly and with the whole Java library: no tables, no pruning,
 * rows by brute force. RandomRunsTest asks it and DutyBeats the same things.
 */
final class Oracle {
  static final class Fault extends RuntimeException {
    final int code;
    Fault(int place, int kind) { super(null, null, false, false); code = 1 + 8 * place + kind; }
  }

  record Token(char kind, String text, int place) { }

  interface Num { long of(State s, int road, List<Integer> let); }
  interface Truth { boolean of(State s, int road, List<Integer> let); }
  record Clause(Num sum, Truth test) { }

  static final class Road implements Cloneable {
    int wait, every, part, went, waited;
    Integer last = null;
    boolean shut = false;
    Road copy() {
      try { return (Road) super.clone(); } catch (CloneNotSupportedException e) { throw new IllegalStateException(e); }
    }
  }

  static final class State {
    int bar, room, beat, heard;
    List<Road> roads = new ArrayList<>();
    boolean[][] clash = new boolean[6][6];
    boolean[][] score = new boolean[12][6];
    int[] gone = new int[6];

    State copy() {
      State c = new State();
      c.bar = bar; c.room = room; c.beat = beat; c.heard = heard;
      for (Road r : roads) c.roads.add(r.copy());
      for (int i = 0; i < 6; i++) c.clash[i] = clash[i].clone();
      for (int i = 0; i < 12; i++) c.score[i] = score[i].clone();
      c.gone = gone.clone();
      return c;
    }
    int since(int r) {
      Integer last = roads.get(r).last;
      return last == null ? 99 : Math.min(99, beat - last);
    }
    int sound(List<Integer> set) {
      int sum = 0;
      for (int a : set) for (int b : set) if (a < b) sum += pair(Math.abs(roads.get(a).part - roads.get(b).part));
      return sum;
    }
    static int pair(int apart) {
      switch (apart) {
        case 0: return 0;
        case 1: case 11: return -3;
        case 2: case 10: return -1;
        case 3: case 5: return 2;
        case 4: case 7: return 3;
        case 6: return -2;
        default: return 1;
      }
    }
    int all(java.util.function.ToIntFunction<Road> f) { return roads.stream().mapToInt(f).sum(); }
    void come() {
      for (Road r : roads) if (!r.shut && beat % r.every == 0) r.wait = Math.min(999, r.wait + 1);
    }
    List<Integer> decide(List<Clause> rule) {
      List<Integer> let = new ArrayList<>();
      for (int r = 0; r < roads.size(); r++) {
        boolean free = true;
        for (int o : let) if (clash[r][o]) free = false;
        if (!free) continue;
        boolean in;
        if (rule == null) {
          in = score[beat % bar][r];
        } else {
          long v = 0;
          for (Clause c : rule) if (c.test == null || c.test.of(this, r, let)) { v = c.sum.of(this, r, let); break; }
          in = v > 0;
        }
        if (in) let.add(r);
      }
      return let;
    }
    void go(List<Integer> let) {
      gone = new int[6];
      List<Integer> sounding = new ArrayList<>();
      for (int r : let) {
        Road road = roads.get(r);
        road.last = beat;
        int k = Math.min(road.wait, room);
        road.wait -= k; road.went += k; gone[r] = k;
        if (k > 0) sounding.add(r);
      }
      heard = Math.max(-9999, Math.min(9999, heard + sound(sounding)));
      for (Road road : roads) road.waited = Math.min(99999, road.waited + road.wait);
      beat++;
    }
    List<Integer> step(List<Clause> rule) {
      come();
      List<Integer> let = decide(rule);
      go(let);
      return let;
    }
    boolean peaceful(List<Integer> set) {
      for (int a : set) for (int b : set) if (clash[a][b]) return false;
      return true;
    }
  }

  // ---- texts

  static List<Token> tokens(String text) {
    List<Token> out = new ArrayList<>();
    java.util.regex.Matcher m = java.util.regex.Pattern.compile("[a-z]+|[0-9]+|<=|>=| +|.", java.util.regex.Pattern.DOTALL).matcher(text);
    while (m.find()) {
      String t = m.group();
      if (t.charAt(0) == ' ') continue;
      char k = t.matches("[a-z]+") ? 'w' : t.matches("[0-9]+") ? 'n' : 's';
      out.add(new Token(k, t, m.start()));
    }
    out.add(new Token('e', "", text.length()));
    return out;
  }

  static final class Parser {
    final List<Token> ts;
    int i = 0, counted = 0;
    Parser(String text) { ts = tokens(text); }
    Token t() { return ts.get(i); }
    boolean is(String s) { return t().kind != 'e' && t().text.equals(s); }
    Fault bad(int kind) { return new Fault(t().place, kind); }
    int number(int lo, int hi) {
      if (t().kind != 'n') throw bad(0);
      if (t().text.length() > 5) throw bad(1);
      int v = Integer.parseInt(t().text);
      if (v < lo || v > hi) throw bad(1);
      i++;
      return v;
    }

    State junction() {
      State s = new State();
      int clause = 0;
      while (true) {
        clause++;
        if (t().kind != 'w' || !List.of("junction", "road", "clash", "score").contains(t().text)) throw bad(0);
        String w = t().text;
        if (clause == 41) throw bad(4);
        if (w.equals("junction") && clause > 1) throw bad(4);
        if (!w.equals("junction") && clause == 1) throw bad(4);
        if (w.equals("road") && s.roads.size() == 6) throw bad(4);
        i++;
        int n = s.roads.size();
        switch (w) {
          case "junction" -> { s.bar = number(1, 12); s.room = number(1, 9); }
          case "road" -> {
            Road r = new Road();
            r.wait = number(0, 30); r.every = number(1, 12); r.part = number(0, 11);
            s.roads.add(r);
          }
          case "clash" -> {
            int a = number(0, n - 1);
            Token second = t();
            int b = number(0, n - 1);
            if (a == b) throw new Fault(second.place, 1);
            s.clash[a][b] = true; s.clash[b][a] = true;
          }
          default -> { int b = number(0, s.bar - 1); int r = number(0, n - 1); s.score[b][r] = true; }
        }
        if (t().kind == 'e') return s;
        if (!is(";")) throw bad(0);
        i++;
      }
    }

    List<Clause> rule() {
      List<Clause> out = new ArrayList<>();
      while (true) {
        if (t().kind != 'w' || !is("let")) throw bad(0);
        if (out.size() == 12) throw bad(4);
        i++;
        Num sum = sum();
        Truth test = null;
        if (is("if")) { i++; test = test(0); }
        out.add(new Clause(sum, test));
        if (t().kind == 'e') return out;
        if (!is(";")) throw bad(0);
        i++;
      }
    }
    Truth test(int deep) {
      Truth left = part(deep);
      while (is("or")) {
        i++;
        Truth l = left, r = part(deep);
        left = (s, road, let) -> l.of(s, road, let) || r.of(s, road, let);
      }
      return left;
    }
    Truth part(int deep) {
      Truth left = fact(deep);
      while (is("and")) {
        i++;
        Truth l = left, r = fact(deep);
        left = (s, road, let) -> l.of(s, road, let) && r.of(s, road, let);
      }
      return left;
    }
    Truth fact(int deep) {
      if (is("not")) {
        if (deep == 10) throw bad(2);
        i++;
        Truth f = fact(deep + 1);
        return (s, road, let) -> !f.of(s, road, let);
      }
      if (is("[")) {
        if (deep == 10) throw bad(2);
        i++;
        Truth f = test(deep + 1);
        if (!is("]")) throw bad(0);
        i++;
        return f;
      }
      Num a = sum();
      String sign = t().text;
      if (!List.of("<", "<=", "=", ">=", ">").contains(sign)) throw bad(0);
      if (++counted > 60) throw bad(3);
      i++;
      Num b = sum();
      return (s, road, let) -> {
        int c = Long.compare(a.of(s, road, let), b.of(s, road, let));
        return sign.equals("<") ? c < 0 : sign.equals("<=") ? c <= 0 : sign.equals("=") ? c == 0 : sign.equals(">") ? c > 0 : c >= 0;
      };
    }
    Num sum() {
      Num left = term();
      while (is("+") || is("-")) {
        boolean plus = is("+");
        i++;
        Num l = left, r = term();
        left = plus ? (s, road, let) -> l.of(s, road, let) + r.of(s, road, let)
            : (s, road, let) -> l.of(s, road, let) - r.of(s, road, let);
      }
      return left;
    }
    Num term() {
      Num left = value();
      while (is("*") || is("/") || is("%")) {
        String op = t().text;
        i++;
        Num l = left, r = value();
        left = (s, road, let) -> {
          long a = l.of(s, road, let), b = r.of(s, road, let);
          if (op.equals("*")) return a * b;
          if (b == 0) return 0;
          return op.equals("/") ? a / b : a % b;
        };
      }
      return left;
    }
    Num value() {
      Token k = t();
      Num out;
      if (k.kind == 'n') {
        if (k.text.length() > 5) throw bad(1);
        long v = Long.parseLong(k.text);
        out = (s, road, let) -> v;
      } else if (k.kind == 'w') {
        out = word(k.text);
        if (out == null) throw bad(0);
      } else {
        throw bad(0);
      }
      if (++counted > 60) throw bad(3);
      i++;
      return out;
    }
    static Num word(String w) {
      switch (w) {
        case "road": return (s, road, let) -> road;
        case "wait": return (s, road, let) -> s.roads.get(road).wait;
        case "every": return (s, road, let) -> s.roads.get(road).every;
        case "part": return (s, road, let) -> s.roads.get(road).part;
        case "scored": return (s, road, let) -> s.score[s.beat % s.bar][road] ? 1 : 0;
        case "let": return (s, road, let) -> let.size();
        case "sound": return (s, road, let) -> {
          List<Integer> with = new ArrayList<>(let);
          with.add(road);
          return s.sound(with) - s.sound(let);
        };
        case "since": return (s, road, let) -> s.since(road);
        case "went": return (s, road, let) -> s.roads.get(road).went;
        case "all": return (s, road, let) -> s.all(r -> r.wait);
        case "beat": return (s, road, let) -> s.beat % s.bar;
        case "hour": return (s, road, let) -> s.beat / s.bar;
        default: return null;
      }
    }
  }

  // ---- the object

  StringBuilder tape = new StringBuilder();
  State now = null;
  State told = null;
  final List<List<Clause>> rules = new ArrayList<>();
  int force = -1;
  int x = 0;
  Deque<State> undo = new ArrayDeque<>();
  List<int[]> notes = new ArrayList<>();

  static final class Snap { State now, told; int force, x; List<int[]> notes; }
  final Snap[] images = new Snap[4];

  List<Clause> law() { return force < 0 ? null : rules.get(force); }
  boolean hasRoad(int r) { return now != null && r >= 0 && r < now.roads.size(); }
  boolean hasBeat(int b) { return now != null && b >= 0 && b < now.bar; }
  static boolean in(int v, int lo, int hi) { return v >= lo && v <= hi; }
  static int bits(Iterable<Integer> set) { int b = 0; for (int r : set) b |= 1 << r; return b; }
  static List<Integer> list(int bits) {
    List<Integer> out = new ArrayList<>();
    for (int r = 0; r < 6; r++) if ((bits >> r & 1) == 1) out.add(r);
    return out;
  }
  void act() { undo.addLast(now.copy()); if (undo.size() > 20) undo.removeFirst(); }
  State ahead(int n) { State s = now.copy(); for (int i = 0; i < n; i++) s.step(law()); return s; }

  int feed(int a, int b, int c, int d, int e) {
    if (tape.length() + 20 > 400) return -1;
    for (int v : new int[] {a, b, c, d, e}) for (byte y : java.nio.ByteBuffer.allocate(4).putInt(v).array()) tape.append((char) (y & 255));
    return tape.length();
  }
  int end(int n) {
    if (n < 0 || n > tape.length()) return -1;
    tape.setLength(n);
    return n;
  }
  int junction() {
    String text = tape.toString();
    tape.setLength(0);
    try {
      State s = new Parser(text).junction();
      now = s; told = s.copy();
      notes.clear(); undo.clear();
      return s.roads.size();
    } catch (Fault f) {
      return -2 - f.code;
    }
  }
  int rule() {
    if (rules.size() == 6) return -1;
    String text = tape.toString();
    tape.setLength(0);
    try {
      rules.add(new Parser(text).rule());
      return rules.size() - 1;
    } catch (Fault f) {
      return -2 - f.code;
    }
  }
  int force(int r) {
    if (r < -1 || r >= rules.size()) return -2;
    int was = force;
    force = r;
    return was;
  }
  int road(int r, int what) {
    if (!hasRoad(r)) return -1;
    Road road = now.roads.get(r);
    switch (what) {
      case 0: return road.wait;
      case 1: return road.every;
      case 2: return road.part;
      case 3: { int b = 0; for (int o = 0; o < 6; o++) if (now.clash[r][o]) b |= 1 << o; return b; }
      case 4: return road.went;
      case 5: return road.waited;
      case 6: return now.since(r);
      default: return -1;
    }
  }
  int scored(int b) {
    if (!hasBeat(b)) return -1;
    int out = 0;
    for (int r = 0; r < 6; r++) if (now.score[b][r]) out |= 1 << r;
    return out;
  }
  int beat() {
    if (now == null || now.beat == 999) return -1;
    act();
    return bits(now.step(law()));
  }
  int come(int r, int many) {
    if (!hasRoad(r) || !in(many, 1, 20)) return -1;
    act();
    Road road = now.roads.get(r);
    return road.wait = Math.min(999, road.wait + many);
  }
  int wave(int r) {
    if (!hasRoad(r) || now.roads.get(r).wait == 0) return -1;
    act();
    Road road = now.roads.get(r);
    int k = Math.min(now.room, road.wait);
    road.wait -= k; road.went += k;
    return k;
  }
  int score(int b, int r) {
    if (!hasBeat(b) || !hasRoad(r)) return -1;
    act();
    now.score[b][r] = !now.score[b][r];
    return now.score[b][r] ? 1 : 0;
  }
  int tune(int r, int part) {
    if (!hasRoad(r) || !in(part, 0, 11) || now.roads.get(r).part == part) return -1;
    act();
    int was = now.roads.get(r).part;
    now.roads.get(r).part = part;
    return was;
  }
  int undo() {
    if (undo.isEmpty()) return -1;
    now = undo.removeLast();
    return undo.size();
  }
  int ahead(int r, int n, int what) {
    if (now == null || !in(n, 0, 100) || !in(what, 0, 2) || what < 2 && !hasRoad(r)) return -10000;
    State s = ahead(n);
    return what == 2 ? s.heard : what == 0 ? s.roads.get(r).wait : s.roads.get(r).went;
  }
  int clear(int r) {
    if (!hasRoad(r)) return -1;
    for (int n = 1; n <= 200; n++) if (ahead(n).roads.get(r).wait == 0) return now.beat + n - 1;
    return -2;
  }
  int chord(int what) {
    if (now == null || !in(what, 0, 1)) return -1;
    List<int[]> all = new ArrayList<>();
    for (int b = 0; b < 1 << now.roads.size(); b++) {
      List<Integer> set = list(b);
      if (now.peaceful(set)) all.add(new int[] {-now.sound(set), set.size(), b});
    }
    all.sort(java.util.Arrays::compare);
    return what == 0 ? -all.get(0)[0] : all.get(0)[2];
  }
  int beats(int what) {
    if (now == null || !in(what, -1, 5)) return -3;
    int n = now.roads.size();
    for (int k = 0; ; k++) {
      int rows = (int) Math.pow(k, n);
      for (int row = 0; row < rows; row++) {
        int[] c = new int[n];
        int v = row;
        for (int r = n - 1; r >= 0; r--) { c[r] = v % k; v /= k; }
        boolean ok = true;
        for (int a = 0; a < n; a++) for (int b = 0; b < n; b++) if (now.clash[a][b] && c[a] == c[b]) ok = false;
        if (ok) return what == -1 ? k : what < n ? c[what] : -2;
      }
    }
  }
  int bestScore(int n, int what) {
    if (now == null || !in(n, 1, 30) || !in(what, 0, 2)) return -1;
    int[] best = {ahead(n).all(r -> r.waited), -2, -2};
    for (int b = 0; b < now.bar; b++) {
      for (int r = 0; r < now.roads.size(); r++) {
        now.score[b][r] ^= true;
        int w = ahead(n).all(q -> q.waited);
        now.score[b][r] ^= true;
        if (w < best[0]) best = new int[] {w, b, r};
      }
    }
    return best[what];
  }
  int row(int n, int what) {
    if (now == null || !in(n, 1, 3) || !in(what, 0, 4)) return -10000;
    if (what > n + 1) return -2;
    List<List<Integer>> sets = new ArrayList<>();
    for (int b = 0; b < 1 << now.roads.size(); b++) if (now.peaceful(list(b))) sets.add(list(b));
    int[] best = null;
    for (int i = 0; i < Math.pow(sets.size(), n); i++) {
      int[] picks = new int[n];
      int v = i;
      for (int d = n - 1; d >= 0; d--) { picks[d] = v % sets.size(); v /= sets.size(); }
      State s = now.copy();
      for (int p : picks) { s.come(); s.go(sets.get(p)); }
      int w = s.all(r -> r.waited);
      if (best == null || w < best[0] || w == best[0] && s.heard > best[1]) {
        best = new int[] {w, s.heard, 0, 0, 0};
        for (int d = 0; d < n; d++) best[2 + d] = bits(sets.get(picks[d]));
      }
    }
    return best[what];
  }
  int leastRoom(int n) {
    if (now == null || !in(n, 1, 60)) return -1;
    for (int room = 1; room <= 9; room++) {
      State s = now.copy();
      s.room = room;
      boolean ok = true;
      for (int i = 0; i < n; i++) { s.step(law()); for (Road r : s.roads) if (r.wait > 20) ok = false; }
      if (ok) return room;
    }
    return -2;
  }
  int shut(int n, int what) {
    if (now == null || !in(n, 1, 60) || !in(what, 0, 1)) return -2;
    int best = -1, least = ahead(n).all(r -> r.waited);
    for (int r = 0; r < now.roads.size(); r++) {
      State s = now.copy();
      s.roads.get(r).wait = 0;
      s.roads.get(r).shut = true;
      for (int i = 0; i < n; i++) s.step(law());
      int w = 0;
      for (int o = 0; o < s.roads.size(); o++) if (o != r) w += s.roads.get(o).waited;
      if (w < least) { least = w; best = r; }
    }
    return what == 0 ? best : least;
  }
  int longest(int n, int what) {
    if (now == null || !in(n, 1, 100) || !in(what, 0, 2)) return -1;
    int[] best = {0, -2, -2};
    State s = now.copy();
    for (int i = 0; i < n; i++) {
      int at = s.beat;
      s.step(law());
      for (int r = 0; r < s.roads.size(); r++) {
        int w = s.roads.get(r).wait;
        if (best[1] == -2 || w > best[0]) best = new int[] {w, at, r};
      }
    }
    return best[what];
  }
  int cadenza(int r) {
    if (!hasRoad(r)) return -1;
    State s = now.copy();
    for (int i = 0; i < 200; i++) {
      int at = s.beat;
      s.step(law());
      boolean alone = s.gone[r] > 0;
      for (int o = 0; o < 6; o++) if (o != r && s.gone[o] > 0) alone = false;
      if (alone) return at;
    }
    return -2;
  }
  int rests(int one, int other, int n, int what) {
    if (!hasRoad(one) || !hasRoad(other) || one == other || !in(n, 1, 20) || !in(what, 0, 2)) return -1;
    int many = 0, first = -2, second = -2;
    for (int a = 1; a <= 9; a += 2) {
      for (int b = 1; b <= 9; b += 2) {
        int[] here = pays(one, other, a, b, n);
        boolean rest = true;
        for (int c = 1; c <= 9; c += 2) {
          if (pays(one, other, c, b, n)[0] > here[0] || pays(one, other, a, c, n)[1] > here[1]) rest = false;
        }
        if (rest && many++ == 0) { first = a; second = b; }
      }
    }
    return what == 0 ? many : what == 1 ? first : second;
  }
  int[] pays(int one, int other, int a, int b, int n) {
    State s = now.copy();
    s.roads.get(one).every = a;
    s.roads.get(other).every = b;
    int[] out = {0, 0};
    for (int i = 0; i < n; i++) { s.step(law()); out[0] += s.gone[one]; out[1] += s.gone[other]; }
    out[0] -= s.roads.get(one).wait / 3;
    out[1] -= s.roads.get(other).wait / 3;
    return out;
  }
  int ring(int what) {
    if (now == null || !in(what, 0, 1)) return -1;
    for (int i = 0; i < 60; i++) {
      State a = ahead(i);
      State b = a.copy();
      for (int j = i + 1; j <= 60; j++) {
        b.step(law());
        boolean same = a.beat % a.bar == b.beat % b.bar;
        for (int r = 0; r < a.roads.size(); r++) if (a.roads.get(r).wait != b.roads.get(r).wait) same = false;
        if (same) return what == 0 ? a.beat : j - i;
      }
    }
    return -2;
  }
  int pence(int much, int road) {
    if (!hasRoad(road) || !in(much, 0, 9999)) return -1;
    int n = now.roads.size();
    long all = now.all(r -> r.waited);
    if (all == 0) return 0;
    int[] get = new int[n];
    long[] lost = new long[n];
    int left = much;
    for (int r = 0; r < n; r++) {
      long due = (long) much * now.roads.get(r).waited;
      get[r] = (int) (due / all);
      lost[r] = due % all;
      left -= get[r];
    }
    while (left > 0) {
      int most = 0;
      for (int r = 1; r < n; r++) if (lost[r] > lost[most]) most = r;
      get[most]++;
      lost[most] = -1;
      left--;
    }
    return get[road];
  }
  int note(int n, int road, int many) {
    if (n == -1) { notes.clear(); return 0; }
    if (!in(n, 0, 60) || !hasRoad(road) || !in(many, 0, 9) || notes.size() == 10) return -2;
    notes.add(new int[] {n, road, many});
    return notes.size();
  }
  List<int[][]> candidates(List<Integer> who) {
    List<int[][]> out = new ArrayList<>();
    for (int k = -1; k < rules.size(); k++) {
      State s = told.copy();
      int[][] went = new int[61][];
      for (int i = 0; i <= 60; i++) { s.step(k < 0 ? null : rules.get(k)); went[i] = s.gone; }
      if (notes.stream().allMatch(q -> went[q[0]][q[1]] == q[2])) { out.add(went); who.add(k); }
    }
    return out;
  }
  int ruled(int what) {
    if (now == null || !in(what, 0, 1)) return -3;
    List<Integer> who = new ArrayList<>();
    candidates(who);
    return what == 0 ? who.size() : who.isEmpty() ? -2 : who.get(0);
  }
  int look(int n, int what) {
    if (now == null || !in(n, 0, 60) || !in(what, 0, 1)) return -1;
    List<int[][]> so = candidates(new ArrayList<>());
    if (so.isEmpty() || now.roads.isEmpty()) return -2;
    int best = -1, fewest = 99;
    for (int r = 0; r < now.roads.size(); r++) {
      Map<Integer, Integer> groups = new TreeMap<>();
      for (int[][] went : so) groups.merge(went[n][r], 1, Integer::sum);
      int most = groups.values().stream().mapToInt(v -> v).max().getAsInt();
      if (most < fewest) { fewest = most; best = r; }
    }
    return what == 0 ? best : fewest;
  }
  int seed(int v) {
    if (v < 0) return -1;
    int was = x;
    x = v;
    return was;
  }
  int mornings(int m, int n, int p, int what) {
    if (now == null || !in(m, 1, 10) || !in(n, 1, 60) || !in(p, 0, 100) || !in(what, 0, 1)) return -100000;
    java.math.BigInteger[] y = {java.math.BigInteger.valueOf(x)};
    java.util.function.IntSupplier draw = () -> {
      y[0] = y[0].multiply(java.math.BigInteger.valueOf(1103515245)).add(java.math.BigInteger.valueOf(12345))
          .mod(java.math.BigInteger.valueOf(2147483648L));
      return y[0].intValueExact() / 65536;
    };
    int went = 0, heard = 0;
    for (int i = 0; i < m; i++) {
      State s = now.copy();
      for (int j = 0; j < n; j++) {
        if (draw.getAsInt() % 100 < p && !s.roads.isEmpty()) {
          Road r = s.roads.get(draw.getAsInt() % s.roads.size());
          r.wait = Math.min(999, r.wait + 3);
        }
        s.step(law());
        for (int g : s.gone) went += g;
      }
      heard += s.heard - now.heard;
    }
    return what == 0 ? went : heard;
  }
  int count(int what) {
    switch (what) {
      case 0: return now == null ? 0 : now.bar;
      case 1: return now == null ? 0 : now.room;
      case 2: return now == null ? 0 : now.roads.size();
      case 3: return rules.size();
      case 4: return force;
      case 5: return now == null ? 0 : now.beat;
      case 6: return now == null ? 0 : now.beat % now.bar;
      case 7: return now == null ? 0 : now.all(r -> r.wait);
      case 8: return now == null ? 0 : now.all(r -> r.went);
      case 9: return now == null ? 0 : now.all(r -> r.waited);
      case 10: return notes.size();
      case 11: return undo.size();
      case 12: return x;
      case 13: return tape.length();
      default: return -1;
    }
  }
  int heard() { return now == null ? 0 : now.heard; }
  int image(int k) {
    if (!in(k, 0, 3)) return -1;
    Snap s = new Snap();
    s.now = now == null ? null : now.copy();
    s.told = told == null ? null : told.copy();
    s.force = force; s.x = x; s.notes = new ArrayList<>(notes);
    images[k] = s;
    return count(5);
  }
  int back(int k) {
    if (!in(k, 0, 3) || images[k] == null) return -1;
    Snap s = images[k];
    now = s.now == null ? null : s.now.copy();
    told = s.told == null ? null : s.told.copy();
    force = s.force; x = s.x; notes = new ArrayList<>(s.notes);
    undo.clear();
    return count(5);
  }
}
