/** How tests tell texts to a DutyBeats, and bring one to where they want it. */
abstract class Told {
  static final String SMALL = "junction 3 2;road 4 2 0;road 3 1 4;road 0 3 7;clash 0 2;"
      + "score 0 0;score 0 1;score 1 2;score 2 1";

  /** The TAPE is that text, and nothing else. */
  static void tell(DutyBeats x, String text) {
    x.end(0);
    for (int at = 0; at < text.length(); at += 20) {
      int[] v = twenty(text, at);
      x.feed(v[0], v[1], v[2], v[3], v[4]);
    }
    x.end(text.length());
  }
  static int[] twenty(String text, int at) {
    int[] v = new int[5];
    for (int i = 0; i < 20; i++) v[i / 4] = v[i / 4] << 8 | (at + i < text.length() ? text.charAt(at + i) & 255 : 0);
    return v;
  }
  /** Texts that stand: a test whose text is faulty would test nothing. */
  static DutyBeats at(String junction, String... rules) {
    DutyBeats x = new DutyBeats();
    tell(x, junction);
    stands(junction, x.junction());
    for (String rule : rules) {
      tell(x, rule);
      stands(rule, x.rule());
    }
    return x;
  }
  private static void stands(String text, int answer) {
    if (answer < 0) throw new IllegalStateException(text + " answered " + answer);
  }
  static DutyBeats forced(String junction, String rule) {
    DutyBeats x = at(junction, rule);
    x.force(0);
    return x;
  }
  static void beats(DutyBeats x, int n) { for (int i = 0; i < n; i++) x.beat(); }
  static void comes(DutyBeats x, int road, int n) { for (int i = 0; i < n; i++) x.come(road, 20); }
  static String times(String text, int n) { return text.repeat(n); }
}
