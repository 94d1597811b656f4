/** For each promise of the document what it asks for, reckoned by hand: ordinary calls, edges, wrong calls. */
public final class PromisesTest extends Told {
  private static int wrong = 0;
  private static int asked = 0;

  private static void due(int promise, String what, int got, int want) {
    asked++;
    if (got != want) {
      wrong++;
      System.out.println("promise " + promise + ": " + what + " answered " + got + ", due is " + want);
    }
  }

  /** ^ marks the place of the FAULT, and is not told. */
  private static void junctionFault(String marked, int kind) {
    int place = marked.indexOf('^');
    DutyBeats x = at(SMALL);
    x.beat();
    x.note(1, 1, 1);
    tell(x, marked.substring(0, place) + marked.substring(place + 1));
    due(4, "junction of " + marked, x.junction(), -2 - (1 + 8 * place + kind));
    due(4, "the JUNCTION stays behind " + marked, x.count(5) * 1000 + x.count(2) * 100 + x.count(10) * 10 + x.count(11), 1311);
    due(4, "the TAPE is empty behind " + marked, x.count(13), 0);
  }
  private static void ruleFault(String marked, int kind) {
    int place = marked.indexOf('^');
    DutyBeats x = new DutyBeats();
    tell(x, marked.substring(0, place) + marked.substring(place + 1));
    due(5, "rule of " + marked, x.rule(), -2 - (1 + 8 * place + kind));
    due(5, "no RULE behind " + marked, x.count(3), 0);
    due(5, "the TAPE is empty behind " + marked, x.count(13), 0);
  }
  private static void ruleStands(String text) {
    DutyBeats x = new DutyBeats();
    tell(x, text);
    due(5, "rule of " + text, x.rule(), 0);
  }
  /** What a RULE lets in, in the BEAT behind n others. */
  private static void letsIn(String rule, int n, int set) {
    DutyBeats x = forced(SMALL, rule);
    beats(x, n);
    due(9, rule + " in BEAT " + n, x.beat(), set);
  }

  private static void newObject() {
    DutyBeats x = new DutyBeats();
    int[] counts = {0, 0, 0, 0, -1, 0, 0, 0, 0, 0, 0, 0, 0, 0};
    for (int i = 0; i < counts.length; i++) due(1, "count(" + i + ")", x.count(i), counts[i]);
    due(1, "heard()", x.heard(), 0);
    due(1, "road(0, 0)", x.road(0, 0), -1);
    due(1, "scored(0)", x.scored(0), -1);
    due(1, "beat()", x.beat(), -1);
    due(1, "come(0, 1)", x.come(0, 1), -1);
    due(1, "wave(0)", x.wave(0), -1);
    due(1, "score(0, 0)", x.score(0, 0), -1);
    due(1, "tune(0, 0)", x.tune(0, 0), -1);
    due(1, "undo()", x.undo(), -1);
    due(1, "ahead(0, 1, 2)", x.ahead(0, 1, 2), -10000);
    due(1, "clear(0)", x.clear(0), -1);
    due(1, "chord(0)", x.chord(0), -1);
    due(1, "beats(-1)", x.beats(-1), -3);
    due(1, "bestScore(1, 0)", x.bestScore(1, 0), -1);
    due(1, "row(1, 0)", x.row(1, 0), -10000);
    due(1, "leastRoom(1)", x.leastRoom(1), -1);
    due(1, "shut(1, 0)", x.shut(1, 0), -2);
    due(1, "longest(1, 0)", x.longest(1, 0), -1);
    due(1, "cadenza(0)", x.cadenza(0), -1);
    due(1, "rests(0, 1, 1, 0)", x.rests(0, 1, 1, 0), -1);
    due(1, "ring(0)", x.ring(0), -1);
    due(1, "pence(1, 0)", x.pence(1, 0), -1);
    due(1, "note(0, 0, 0)", x.note(0, 0, 0), -2);
    due(1, "note(-1, 0, 0)", x.note(-1, 0, 0), 0);
    due(1, "ruled(0)", x.ruled(0), -3);
    due(1, "look(0, 0)", x.look(0, 0), -1);
    due(1, "mornings(1, 1, 0, 0)", x.mornings(1, 1, 0, 0), -100000);
    due(1, "back(0)", x.back(0), -1);
    due(1, "NONE", DutyBeats.NONE, -1);
  }

  private static void tape() {
    DutyBeats x = new DutyBeats();
    for (int i = 1; i <= 20; i++) due(2, "feed " + i, x.feed(0, 0, 0, 0, 0), 20 * i);
    due(2, "feed of the 21st", x.feed(0, 0, 0, 0, 0), -1);
    due(2, "still", x.count(13), 400);
    due(3, "end(401)", x.end(401), -1);
    due(3, "end(-1)", x.end(-1), -1);
    due(3, "end(400)", x.end(400), 400);
    due(3, "end(381)", x.end(381), 381);
    due(2, "feed that would be 401", x.feed(0, 0, 0, 0, 0), -1);
    due(3, "end(380)", x.end(380), 380);
    due(3, "end(381) of 380", x.end(381), -1);
    due(2, "feed up to 400", x.feed(0, 0, 0, 0, 0), 400);
    due(3, "end(0)", x.end(0), 0);
    due(3, "empty", x.count(13), 0);
    // "let 1 if wait<5" and five bytes that are cut, the highest byte of each number first
    due(2, "feed", x.feed(0x6c657420, 0x31206966, 0x20776169, 0x743c357e, 0x7e7e7e7e), 20);
    due(3, "end(15)", x.end(15), 15);
    due(5, "rule()", x.rule(), 0);
    due(2, "feed of -1", x.feed(-1, -1, -1, -1, -1), 20);
    due(5, "rule() of byte 255", x.rule(), -3);
  }

  private static void junctionFaults() {
    junctionFault("^", 0);
    junctionFault("   ^", 0);
    junctionFault("junction^", 0);
    junctionFault("junction 5^", 0);
    junctionFault("junction 5  ^", 0);
    junctionFault("junction 11^", 0);
  }
  private static void junctionNumbers() {
    junctionFault("junction ^0 1", 1);
    junctionFault("junction ^13 1", 1);
    junctionFault("junction 1 ^0", 1);
    junctionFault("junction 1 ^10", 1);
    junctionFault("junction ^000001 1", 1);
    junctionFault("junction 1 1;road ^31 1 0", 1);
    junctionFault("junction 1 1;road 0 ^0 0", 1);
    junctionFault("junction 1 1;road 0 ^13 0", 1);
    junctionFault("junction 1 1;road 0 1 ^12", 1);
    junctionFault("junction 1 1;clash ^0 1", 1);
    junctionFault("junction 1 1;road 0 1 0;clash 0 ^0", 1);
    junctionFault("junction 1 1;road 0 1 0;clash 0 ^1", 1);
    junctionFault("junction 1 1;road 0 1 0;clash ^1 0", 1);
    junctionFault("junction 1 1;road 0 1 0;score ^1 0", 1);
    junctionFault("junction 1 1;road 0 1 0;score 0 ^1", 1);
    junctionFault("junction 1 1;score 0 ^0", 1);
    junctionFault("junction ^99999999999 1", 1);
    junctionFault("junction ^4294967297 1", 1);
  }
  private static void junctionSigns() {
    junctionFault("^junctions 1 1", 0);
    junctionFault("^junctio 1 1", 0);
    junctionFault("^Junction 1 1", 0);
    junctionFault("^5 1", 0);
    junctionFault("junction ^x 1", 0);
    junctionFault("junction 1 1 ^1", 0);
    junctionFault("junction 1 1 ^123456", 0);
    junctionFault("junction 1 1^x", 0);
    junctionFault("junction 1 1;^", 0);
    junctionFault("junction 1 1;  ^", 0);
    junctionFault("junction 1 1;^;road 0 1 0", 0);
    junctionFault("junction 1 1;^let 1", 0);
    junctionFault("junction 1 1;road 0^;", 0);
    junctionFault("junction 1 ^-1", 0);
    junctionFault("junction^\t1 1", 0);
    junctionFault("junction 1 1^\u0000", 0);
    junctionFault("junction 1 1^\u00e9", 0);
    junctionFault("^road 0 1 0", 4);
    junctionFault("  ^clash 0 1", 4);
    junctionFault("^score 0 0", 4);
    junctionFault("junction 1 1;^junction 1 1", 4);
    junctionFault("junction 1 1" + times(";road 0 1 0", 6) + ";^road x", 4);
  }
  private static void junctionClauses() {
    // 40 CLAUSES in 400 bytes: 8 bytes each is what a short score takes
    String forty = "junction 1 1;road 0 1 0" + times(";score0 0", 38);
    DutyBeats x = new DutyBeats();
    tell(x, forty);
    due(4, "40 CLAUSES", x.junction(), 1);
    junctionFault(forty + ";^score 0 0", 4);
    junctionFault(forty + ";^junction 0", 4);
    junctionFault(forty + ";^x", 0);
    junctionFault(forty + ";^", 0);
    tell(x, "  junction12 9;road0 1 0 ; road 30 12 11;clash 1 0;clash 0 1;score 11 1;score 11 1  ");
    due(4, "the widest numbers", x.junction(), 2);
    due(4, "BAR", x.count(0), 12);
    due(4, "ROOM", x.count(1), 9);
    due(4, "clash once", x.road(0, 3), 2);
    due(4, "clash of the other", x.road(1, 3), 1);
    due(4, "score once", x.scored(11), 2);
    tell(x, "junction 00001 00009");
    due(4, "five digits, no ROADS", x.junction(), 0);
    due(4, "BAR", x.count(0), 1);
  }
  private static void junctionReplaces() {
    DutyBeats x = at(SMALL, "let wait");
    x.force(0);
    x.seed(77);
    x.beat();
    x.come(0, 5);
    x.note(3, 1, 2);
    x.image(2);
    tell(x, "junction 2 1;road 9 1 5");
    due(4, "junction()", x.junction(), 1);
    due(4, "BEAT", x.count(5), 0);
    due(4, "NOTES", x.count(10), 0);
    due(4, "ACTS", x.count(11), 0);
    due(4, "undo()", x.undo(), -1);
    due(4, "RULES", x.count(3), 1);
    due(4, "IN FORCE", x.count(4), 0);
    due(4, "x", x.count(12), 77);
    due(4, "HEARD", x.heard(), 0);
    due(4, "wait", x.road(0, 0), 9);
    due(4, "went", x.road(0, 4), 0);
    due(4, "WAITED", x.road(0, 5), 0);
    due(4, "since", x.road(0, 6), 99);
    due(4, "no ROAD 1", x.road(1, 0), -1);
    due(4, "IMAGE stays", x.back(2), 1);
  }

  private static void ruleFaults() {
    ruleFault("^", 0);
    ruleFault("let^", 0);
    ruleFault("^lets 1", 0);
    ruleFault("^junction 1 1", 0);
    ruleFault("let ^x", 0);
    ruleFault("let ^not", 0);
    ruleFault("let ^if 1=1", 0);
    ruleFault("let ^[1]", 0);
    ruleFault("let ^-1", 0);
    ruleFault("let 5 %^", 0);
    ruleFault("let 1;^", 0);
    ruleFault("let 1 ^< 2", 0);
    ruleFault("let 1 ^2", 0);
    ruleFault("let 1 ^123456", 0);
    ruleFault("let ^123456", 1);
    ruleFault("let 1+^000001", 1);
    ruleFault("let 1 if^", 0);
    ruleFault("let 1 if wait^", 0);
    ruleFault("let 1 if wait ^and 1=1", 0);
    ruleFault("let 1 if wait <^", 0);
    ruleFault("let 1 if wait < ^= 2", 0);
    ruleFault("let 1 if wait =^< 2", 0);
    ruleFault("let 1 if wait =^= 2", 0);
    ruleFault("let 1 if 1 < 2 ^< 3", 0);
    ruleFault("let 1 if went = 1^]", 0);
    ruleFault("let 1 if [went = 1^", 0);
    ruleFault("let 1 if [^]", 0);
    ruleFault("let 1 if not^", 0);
    ruleFault("let 1 if [wait^]", 0);
    ruleFault("let 1 if 1=1 and^", 0);
    ruleFault("let 1 if 1=1 or ^or 1=1", 0);
    ruleFault("let 1 if 1=1 ^if 1=1", 0);
    ruleFault("let 1 if 1=1 ^let 1", 0);
    ruleFault("let 1 if ^notwait=1", 0);
    ruleFault("let 1 if 1=1 ^, 1", 0);
  }
  private static void ruleLimits() {
    ruleStands("let 1");
    ruleStands("let let;let wait if not[1=1]");
    ruleStands("let1if1=1and2=2or3=3");
    ruleStands("let 99999*99999 if beat<=hour or all>=since");
    ruleStands("let 1 if " + times("not ", 10) + "1=1");
    ruleFault("let 1 if " + times("not ", 10) + "^not 1=1", 2);
    ruleStands("let 1 if " + times("[", 10) + "1=1" + times("]", 10));
    ruleFault("let 1 if " + times("[", 10) + "^[1=1", 2);
    ruleFault("let 1 if " + times("not [", 5) + "^not 1=1", 2);
    ruleFault("let 1 if " + times("[not ", 5) + "^[1=1", 2);
    ruleStands("let 1 if " + times("[", 10) + "1=1" + times("]", 10) + " and " + times("not ", 10) + "1=1");
    ruleStands("let 1" + times("+1", 59));
    ruleFault("let 1" + times("+1", 59) + "+^1", 3);
    ruleFault("let 1" + times("+1", 59) + "+^wait", 3);
    ruleFault("let 1" + times("+1", 59) + "+^word", 0);
    ruleFault("let 1" + times("+1", 59) + "+^123456", 1);
    ruleFault("let 1" + times("+1", 59) + ";let ^1", 3);
    // 59 and the two sides: the SIGN is the 60th, what is behind it the 61st
    ruleStands("let 1" + times("+1", 56) + " if 1=1");
    ruleFault("let 1" + times("+1", 57) + " if 1=^1", 3);
    ruleFault("let 1" + times("+1", 58) + " if 1^=1", 3);
    ruleFault("let 1" + times("+1", 59) + " if ^1=1", 3);
    ruleStands(times("let 1;", 11) + "let 1");
    ruleFault(times("let 1;", 12) + "^let 1", 4);
    ruleFault(times("let 1;", 12) + "^lets 1", 0);
    ruleFault(times("let 1;", 12) + "^", 0);
  }
  private static void ruleCount() {
    DutyBeats x = new DutyBeats();
    for (int i = 0; i < 6; i++) {
      tell(x, "let " + i);
      due(5, "rule " + i, x.rule(), i);
      due(5, "the TAPE is empty", x.count(13), 0);
    }
    tell(x, "let x");
    due(5, "a seventh", x.rule(), -1);
    due(5, "the TAPE stays", x.count(13), 5);
    due(5, "RULES", x.count(3), 6);
  }

  private static void force() {
    DutyBeats x = at(SMALL, "let 1", "let 0");
    due(6, "force(2)", x.force(2), -2);
    due(6, "force(-2)", x.force(-2), -2);
    due(6, "force(-1)", x.force(-1), -1);
    due(6, "force(1)", x.force(1), -1);
    due(6, "force(5)", x.force(5), -2);
    due(6, "IN FORCE", x.count(4), 1);
    due(6, "beat() by RULE 1", x.beat(), 0);
    due(6, "force(0)", x.force(0), 1);
    due(6, "beat() by RULE 0", x.beat(), 3);
    due(6, "force(-1)", x.force(-1), 0);
    due(6, "beat() by the score", x.beat(), 2);
    due(6, "undo() leaves it", x.undo() + 10 * x.count(4), 2 - 10);
  }

  private static void roads() {
    DutyBeats x = at(SMALL);
    int[][] want = {{4, 2, 0, 4, 0, 0, 99}, {3, 1, 4, 0, 0, 0, 99}, {0, 3, 7, 1, 0, 0, 99}};
    for (int r = 0; r < 3; r++) for (int w = 0; w < 7; w++) due(7, "road(" + r + ", " + w + ")", x.road(r, w), want[r][w]);
    due(7, "road(3, 0)", x.road(3, 0), -1);
    due(7, "road(-1, 0)", x.road(-1, 0), -1);
    due(7, "road(0, 7)", x.road(0, 7), -1);
    due(7, "road(0, -1)", x.road(0, -1), -1);
    beats(x, 3);
    int[][] later = {{4, 2, 0, 4, 2, 10, 3}, {2, 1, 4, 0, 4, 7, 1}, {0, 3, 7, 1, 1, 1, 2}};
    for (int r = 0; r < 3; r++) for (int w = 0; w < 7; w++) due(7, "road(" + r + ", " + w + ") then", x.road(r, w), later[r][w]);
    DutyBeats once = at("junction 1 1;road 0 1 0;score 0 0");
    once.beat();
    once.score(0, 0);
    beats(once, 97);
    due(7, "since of 98", once.road(0, 6), 98);
    beats(once, 1);
    due(7, "since of 99", once.road(0, 6), 99);
    beats(once, 1);
    due(7, "since of 100", once.road(0, 6), 99);
  }

  private static void scored() {
    DutyBeats x = at(SMALL);
    due(8, "scored(0)", x.scored(0), 3);
    due(8, "scored(1)", x.scored(1), 4);
    due(8, "scored(2)", x.scored(2), 2);
    due(8, "scored(3)", x.scored(3), -1);
    due(8, "scored(-1)", x.scored(-1), -1);
  }

  private static void beat() {
    DutyBeats x = at(SMALL);
    int[] let = {3, 4, 2, 3};
    int[] heard = {3, 3, 3, 6};
    int[][] wait = {{3, 2, 1}, {3, 3, 0}, {4, 2, 0}, {2, 1, 1}};
    int[][] waited = {{3, 2, 1}, {6, 5, 1}, {10, 7, 1}, {12, 8, 2}};
    for (int i = 0; i < 4; i++) {
      due(9, "beat() " + i, x.beat(), let[i]);
      due(9, "heard() " + i, x.heard(), heard[i]);
      for (int r = 0; r < 3; r++) {
        due(9, "wait of " + r + " behind " + i, x.road(r, 0), wait[i][r]);
        due(9, "WAITED of " + r + " behind " + i, x.road(r, 5), waited[i][r]);
      }
    }
    due(9, "BEAT", x.count(5), 4);
    due(9, "beat of the BAR", x.count(6), 1);
    // a clash: ROAD 0 first; ROAD 2 is not let in beside it
    DutyBeats clash = at("junction 1 5;road 1 1 0;road 1 1 4;road 1 1 7;clash 0 2;score 0 0;score 0 1;score 0 2");
    due(9, "a clash", clash.beat(), 3);
    // let in, but nobody waits: it does not sound, but it was let in
    DutyBeats nobody = at("junction 1 5;road 3 1 0;road 0 12 4;score 0 0;score 0 1");
    beats(nobody, 1);
    due(9, "both sound", nobody.heard(), 3);
    due(9, "both let in", nobody.beat(), 3);
    due(9, "one sounds", nobody.heard(), 3);
    due(9, "since of the silent one", nobody.road(1, 6), 1);
    // by hand up to BEAT 999 (more calls than are promised, but the sentence is)
    DutyBeats far = at("junction 7 1");
    beats(far, 999);
    due(9, "BEAT", far.count(5), 999);
    due(9, "beat() in BEAT 999", far.beat(), -1);
    due(9, "BEAT stays", far.count(5), 999);
    due(9, "longest beyond it", far.longest(3, 0), 0);
  }
  private static void sounds() {
    int[] table = {0, -3, -1, 2, 3, 2, -2, 3, 1, 1, -1, -3};
    for (int apart = 0; apart < 12; apart++) {
      DutyBeats x = at("junction 1 1;road 1 1 " + apart + ";road 1 1 0;score 0 0;score 0 1");
      x.beat();
      due(9, apart + " apart", x.heard(), table[apart]);
    }
    DutyBeats three = at("junction 1 1;road 1 1 0;road 1 1 4;road 1 1 7;score 0 0;score 0 1;score 0 2");
    three.beat();
    due(9, "0, 4 and 7", three.heard(), 3 + 3 + 2);
  }
  private static void words() {
    letsIn("let road", 0, 6);
    letsIn("let wait - 4", 0, 1);
    letsIn("let every - 1", 0, 1);
    letsIn("let every - 2", 0, 4);
    letsIn("let part - 4", 0, 4);
    letsIn("let scored", 0, 3);
    letsIn("let scored", 1, 4);
    letsIn("let 1 - let", 0, 1);
    letsIn("let let + road", 0, 2 | 4);
    letsIn("let 1 if let = 0;let sound", 0, 3);
    letsIn("let 1 if let = 0;let sound - 3", 0, 1);
    letsIn("let since - 98", 0, 3);
    letsIn("let since - 98", 1, 4);
    letsIn("let since", 1, 3);
    letsIn("let since - 1", 1, 4);
    letsIn("let went + 1", 1, 3);
    letsIn("let 1 if went = 0", 1, 4);
    letsIn("let all - 9", 0, 3);
    letsIn("let all - 10", 0, 0);
    letsIn("let beat", 0, 0);
    letsIn("let beat", 2, 3);
    letsIn("let beat", 3, 0);
    letsIn("let hour", 2, 0);
    letsIn("let hour", 3, 3);
    letsIn("let hour - 1", 5, 0);
    letsIn("let hour - 1", 6, 3);
  }
  private static void clauses() {
    letsIn("let 0;let 1", 0, 0);
    letsIn("let 1 if road = 1;let 0", 0, 2);
    letsIn("let 0 if road = 1;let 1", 0, 1);
    letsIn("let 1 if road = 1", 0, 2);
    letsIn("let 1 if road = 0 or road = 1 and wait > 99", 0, 1);
    letsIn("let 1 if [road = 0 or road = 1] and wait < 5", 0, 2);
    letsIn("let 1 if not road = 0 and wait > 0", 0, 6);
    letsIn("let 1 if not [road = 0 and wait > 0]", 0, 6);
    letsIn("let 1 if not not road = 0", 0, 1);
    letsIn("let 1 if wait <= 4", 0, 6);
    letsIn("let 1 if wait < 4", 0, 4);
    letsIn("let 1 if wait >= 5", 0, 1);
    letsIn("let 1 if wait > 5", 0, 0);
    letsIn("let 1 if wait = 4", 0, 2);
    letsIn("let 2 - 3 * 2 + 5", 0, 3);
    letsIn("let 2 - 3 * 2 + 4", 0, 0);
    letsIn("let 7 / 2 * 2 - 5", 0, 3);
    letsIn("let 7 / 2 * 2 - 6", 0, 0);
    letsIn("let 7 % 4 - 2", 0, 3);
    letsIn("let 7 % 4 - 3", 0, 0);
    letsIn("let 1 if 0 - 7 * 1 = 0 - 7 / 1", 0, 3);
    letsIn("let 5 / 0 + 1 - 5 % 0", 0, 3);
    letsIn("let 5 / 0", 0, 0);
    letsIn("let 5 % 0", 0, 0);
    letsIn(times("let 1 if 1=2;", 7) + "let 1 if [1=2 or 1=1 and [1=2 or 1=1 and [1=2 or 1=1 and [1=2 or 2=1+1]]]]", 0, 3);
    letsIn(times("let 1 if 1=2;", 7) + "let 1 if [1=2 or 1=1 and [1=2 or 1=1 and [1=2 or 1=1 and [1=2 or 2=1+2]]]]", 0, 0);
    // the most that can stand open: a SUM, two joined FACTS in each of 9 brackets, then 4 of a FACT
    letsIn("let 1 if " + times("1=2 or 1=1 and [", 9) + "2=1+1*1" + times("]", 9), 0, 3);
    letsIn("let 1 if " + times("1=2 or 1=1 and [", 9) + "1=1+1*1" + times("]", 9), 0, 0);
    letsIn("let 8 - 3 - 4", 0, 3);
    letsIn("let 8 - 3 - 5", 0, 0);
    letsIn("let 20 / 3 / 2 - 2", 0, 3);
    letsIn("let 20 / 3 / 2 - 3", 0, 0);
    // 65536 ^ 4 is 0 round 64 bits; 2 * 32768 * 65536 ^ 3 is half of it, and below 0
    letsIn("let 1 - 65536*65536*65536*65536", 0, 3);
    letsIn("let 65536*65536*65536*32768", 0, 0);
    letsIn("let 65536*65536*65536*32768 - 1", 0, 3);
    // below 0: / towards 0, % its rest (of values, so that sound is what is below 0)
    DutyBeats x = forced("junction 1 1;road 9 1 0;road 9 1 1", "let 1 if road = 0;let 1 if sound = 0 - 3 and sound / 2 = 0 - 1 and sound % 2 = 0 - 1");
    due(9, "below 0", x.beat(), 3);
  }

  private static void come() {
    DutyBeats x = at(SMALL);
    due(10, "come(0, 0)", x.come(0, 0), -1);
    due(10, "come(0, 21)", x.come(0, 21), -1);
    due(10, "come(0, -1)", x.come(0, -1), -1);
    due(10, "come(3, 1)", x.come(3, 1), -1);
    due(10, "come(-1, 1)", x.come(-1, 1), -1);
    due(10, "nothing happened", x.count(7) * 100 + x.count(11), 700);
    due(10, "come(0, 1)", x.come(0, 1), 5);
    due(10, "come(0, 20)", x.come(0, 20), 25);
    comes(x, 0, 48);
    due(10, "come up to 999", x.come(0, 20), 999);
    due(10, "come at 999", x.come(0, 1), 999);
    x.beat();
    due(10, "a BEAT at 999", x.road(0, 0), 997);
    due(10, "WAITED", x.road(0, 5), 997);
  }

  private static void wave() {
    DutyBeats x = at(SMALL);
    due(11, "wave(2), nobody waits", x.wave(2), -1);
    due(11, "wave(3)", x.wave(3), -1);
    due(11, "wave(-1)", x.wave(-1), -1);
    due(11, "nothing happened", x.count(11), 0);
    due(11, "wave(1)", x.wave(1), 2);
    due(11, "wave(1) again", x.wave(1), 1);
    due(11, "wave(1) again", x.wave(1), -1);
    due(11, "went", x.road(1, 4), 3);
    due(11, "HEARD", x.heard(), 0);
    due(11, "since", x.road(1, 6), 99);
    due(11, "BEAT", x.count(5), 0);
    due(11, "WAITED", x.count(9), 0);
  }

  private static void score() {
    DutyBeats x = at(SMALL);
    due(12, "score(3, 0)", x.score(3, 0), -1);
    due(12, "score(-1, 0)", x.score(-1, 0), -1);
    due(12, "score(0, 3)", x.score(0, 3), -1);
    due(12, "score(0, -1)", x.score(0, -1), -1);
    due(12, "nothing happened", x.count(11), 0);
    due(12, "score(0, 0)", x.score(0, 0), 0);
    due(12, "scored(0)", x.scored(0), 2);
    due(12, "score(2, 2)", x.score(2, 2), 1);
    due(12, "scored(2)", x.scored(2), 6);
    due(12, "score(0, 0) again", x.score(0, 0), 1);
    due(12, "ACTS", x.count(11), 3);
  }

  private static void tune() {
    DutyBeats x = at(SMALL);
    due(13, "tune(1, 4), its own", x.tune(1, 4), -1);
    due(13, "tune(1, 12)", x.tune(1, 12), -1);
    due(13, "tune(1, -1)", x.tune(1, -1), -1);
    due(13, "tune(3, 0)", x.tune(3, 0), -1);
    due(13, "tune(-1, 0)", x.tune(-1, 0), -1);
    due(13, "nothing happened", x.count(11), 0);
    due(13, "tune(1, 11)", x.tune(1, 11), 4);
    due(13, "part", x.road(1, 2), 11);
    due(13, "tune(1, 0)", x.tune(1, 0), 11);
    x.tune(1, 11);
    x.beat();
    due(13, "what sounds then", x.heard(), -3);
  }

  private static void undo() {
    DutyBeats x = at(SMALL, "let 1");
    due(14, "undo() of none", x.undo(), -1);
    x.beat();
    x.come(1, 7);
    x.wave(0);
    x.score(1, 1);
    x.tune(2, 3);
    x.force(0);
    x.seed(5);
    x.note(0, 0, 2);
    due(14, "undo() of TUNE", x.undo() * 100 + x.road(2, 2), 407);
    due(14, "undo() of SCORE", x.undo() * 100 + x.scored(1), 304);
    due(14, "undo() of WAVE", x.undo() * 100 + x.road(0, 0) * 10 + x.road(0, 4), 232);
    due(14, "undo() of COME", x.undo() * 100 + x.road(1, 0), 102);
    due(14, "undo() of a BEAT", x.undo() * 100 + x.road(0, 0) + x.count(5) + x.heard() + x.count(9), 4);
    due(14, "since", x.road(0, 6), 99);
    due(14, "undo() of none", x.undo(), -1);
    due(14, "no ACTS are force, seed and note", x.count(4) * 100 + x.count(12) * 10 + x.count(10), 51);
    for (int i = 1; i <= 25; i++) x.come(0, 1);
    due(14, "20 at most", x.count(11), 20);
    for (int i = 19; i >= 0; i--) due(14, "undo() to " + i, x.undo(), i);
    due(14, "undo() of the 21st", x.undo(), -1);
    due(14, "five are left", x.road(0, 0), 9);
  }

  private static void ahead() {
    DutyBeats x = at(SMALL);
    due(15, "ahead(0, 0, 0)", x.ahead(0, 0, 0), 4);
    due(15, "ahead(0, 3, 0)", x.ahead(0, 3, 0), 4);
    due(15, "ahead(1, 3, 1)", x.ahead(1, 3, 1), 4);
    due(15, "ahead(1, 4, 2)", x.ahead(1, 4, 2), 6);
    due(15, "ahead(99, 4, 2)", x.ahead(99, 4, 2), 6);
    due(15, "ahead(3, 1, 0)", x.ahead(3, 1, 0), -10000);
    due(15, "ahead(-1, 1, 1)", x.ahead(-1, 1, 1), -10000);
    due(15, "ahead(0, -1, 0)", x.ahead(0, -1, 0), -10000);
    due(15, "ahead(0, 101, 0)", x.ahead(0, 101, 0), -10000);
    due(15, "ahead(0, 101, 2)", x.ahead(0, 101, 2), -10000);
    due(15, "ahead(0, 1, 3)", x.ahead(0, 1, 3), -10000);
    due(15, "ahead(0, 1, -1)", x.ahead(0, 1, -1), -10000);
    due(15, "nothing changes", x.count(5) + x.count(11), 0);
    beats(x, 3);
    due(15, "ahead(0, 1, 1), so far", x.ahead(0, 1, 1), 4);
    DutyBeats low = at("junction 1 1;road 30 1 0;road 30 1 1;score 0 0;score 0 1");
    due(15, "below 0", low.ahead(0, 100, 2), -300);
    DutyBeats rule = forced(SMALL, "let road");
    due(15, "by the RULE", rule.ahead(1, 2, 1), 4);
  }

  private static void clear() {
    DutyBeats x = at(SMALL);
    due(16, "clear(2)", x.clear(2), 1);
    due(16, "clear(3)", x.clear(3), -1);
    due(16, "clear(-1)", x.clear(-1), -1);
    x.beat();
    due(16, "clear(2) behind one", x.clear(2), 1);
    x.beat();
    due(16, "clear(2) behind two", x.clear(2), 2);
    DutyBeats never = at("junction 1 1;road 0 1 0");
    due(16, "never", never.clear(0), -2);
    // one comes every 12, one goes: n waiting are gone behind BEAT n + what came
    DutyBeats last = at("junction 1 1;road 0 12 0;score 0 0");
    comes(last, 0, 9);
    last.come(0, 3);
    due(16, "the 200th", last.clear(0), 199);
    last.come(0, 1);
    due(16, "the 201st", last.clear(0), -2);
    due(16, "nothing changes", last.count(5), 0);
  }

  private static void chord() {
    DutyBeats x = at(SMALL);
    due(17, "chord(0)", x.chord(0), 3);
    due(17, "chord(1)", x.chord(1), 3);
    due(17, "chord(2)", x.chord(2), -1);
    due(17, "chord(-1)", x.chord(-1), -1);
    x.tune(1, 3);
    due(17, "chord(0), 3 and 7 are 4 apart", x.chord(0) * 10 + x.chord(1), 36);
    DutyBeats bad = at("junction 1 1;road 0 1 0;road 0 1 1;road 0 1 0");
    due(17, "nobody", bad.chord(0) * 10 + bad.chord(1), 0);
    DutyBeats few = at("junction 1 1;road 0 1 4;road 0 1 0;road 0 1 4;clash 0 2");
    due(17, "the least as bits", few.chord(0) * 10 + few.chord(1), 33);
    // 0 4 7: 8; one more at 0 gives 3 and 3 again
    DutyBeats all = at("junction 1 1;road 0 1 0;road 0 1 4;road 0 1 7;road 0 1 0");
    due(17, "four", all.chord(0) * 100 + all.chord(1), 1415);
    // 0 8 0 sound 1 + 1 + 0, and so do 0 and 3, which are fewer, if not the least as bits
    DutyBeats even = at("junction 1 1;road 0 1 0;road 0 1 8;road 0 1 0;road 0 1 3;clash 3 1;clash 3 2");
    due(17, "the fewest", even.chord(0) * 100 + even.chord(1), 209);
    due(17, "no ROADS", at("junction 1 1").chord(0), 0);
  }

  private static void beatsOfScore() {
    DutyBeats x = at(SMALL);
    due(18, "beats(-1)", x.beats(-1), 2);
    due(18, "beats(0)", x.beats(0), 0);
    due(18, "beats(1)", x.beats(1), 0);
    due(18, "beats(2)", x.beats(2), 1);
    due(18, "beats(3)", x.beats(3), -2);
    due(18, "beats(6)", x.beats(6), -3);
    due(18, "beats(-2)", x.beats(-2), -3);
    due(18, "no ROADS", at("junction 1 1").beats(-1), 0);
    due(18, "no ROAD 0", at("junction 1 1").beats(0), -2);
    due(18, "one ROAD", at("junction 1 1;road 0 1 0").beats(-1), 1);
    // a crown: greedy by numbers would need three
    DutyBeats crown = at("junction 1 1" + times(";road 0 1 0", 6)
        + ";clash 0 3;clash 0 5;clash 2 1;clash 2 5;clash 4 1;clash 4 3");
    for (int r = 0; r < 6; r++) due(18, "crown " + r, crown.beats(-1) * 10 + crown.beats(r), 20 + r % 2);
    StringBuilder all = new StringBuilder("junction 1 1" + times(";road 0 1 0", 6));
    for (int a = 0; a < 6; a++) for (int b = 0; b < a; b++) all.append(";clash ").append(a).append(' ').append(b);
    DutyBeats six = at(all.toString());
    due(18, "all clash", six.beats(-1) * 10 + six.beats(5), 65);
    // 0 - 2, 2 - 1, 1 - 3: with two, ROAD 1 must have another beat than the least that is free
    DutyBeats path = at("junction 1 1" + times(";road 0 1 0", 4) + ";clash 0 3;clash 3 1;clash 1 2");
    due(18, "path", path.beats(-1) * 1000 + path.beats(1) * 100 + path.beats(2) * 10 + path.beats(3), 2011);
    DutyBeats turn = at("junction 1 1" + times(";road 0 1 0", 4) + ";clash 0 2;clash 2 3;clash 3 1");
    due(18, "turn", turn.beats(-1) * 1000 + turn.beats(1) * 100 + turn.beats(2) * 10 + turn.beats(3), 2110);
  }

  private static void bestScore() {
    DutyBeats x = at("junction 2 1;road 3 12 0;road 5 12 0;score 0 0");
    // n 1, BEAT 0: one comes on each: 4 and 6 wait; ROAD 0 goes: 3 + 6; with ROAD 1 on beat 0: 3 + 5
    due(19, "bestScore(1, 0)", x.bestScore(1, 0), 8);
    due(19, "bestScore(1, 1)", x.bestScore(1, 1), 0);
    due(19, "bestScore(1, 2)", x.bestScore(1, 2), 1);
    due(19, "bestScore(0, 0)", x.bestScore(0, 0), -1);
    due(19, "bestScore(31, 0)", x.bestScore(31, 0), -1);
    due(19, "bestScore(1, 3)", x.bestScore(1, 3), -1);
    due(19, "bestScore(1, -1)", x.bestScore(1, -1), -1);
    due(19, "nothing changes", x.scored(0) * 10 + x.scored(1), 10);
    x.beat();
    due(19, "all that was WAITED counts", x.bestScore(1, 0), 9 + 2 + 6);
    due(19, "the least beat", x.bestScore(1, 1), 1);
    due(19, "the least ROAD", x.bestScore(1, 2), 0);
    DutyBeats none = at("junction 1 9;road 0 1 0;score 0 0");
    due(19, "none", none.bestScore(30, 0), 0);
    due(19, "none, which", none.bestScore(30, 1), -2);
    due(19, "none, who", none.bestScore(30, 2), -2);
    DutyBeats off = at("junction 1 9;road 0 12 0;road 5 1 0;clash 0 1;score 0 0;score 0 1");
    due(19, "let in no more: 6 less 6, not 0 less 1", off.bestScore(1, 0) * 100 + off.bestScore(1, 1) * 10 + off.bestScore(1, 2), 100);
    DutyBeats rule = forced("junction 1 9;road 5 1 0", "let 0");
    due(19, "by a RULE", rule.bestScore(2, 1) * 100 + rule.bestScore(2, 0), -200 + 6 + 7);
  }

  private static void row() {
    DutyBeats x = at("junction 1 2;road 2 12 0;road 2 12 4;road 2 12 7;clash 0 1");
    // BEAT 0: 3 3 3. {0, 2} or {1, 2}: 1 3 1 or 3 1 1; 0 and 7 sound 3, 4 and 7 sound 2
    due(20, "row(1, 0)", x.row(1, 0), 5);
    due(20, "row(1, 1)", x.row(1, 1), 3);
    due(20, "row(1, 2)", x.row(1, 2), 5);
    due(20, "row(1, 3)", x.row(1, 3), -2);
    due(20, "row(1, 4)", x.row(1, 4), -2);
    // then 1 3 1: {1, 2} leaves 1 1 0; 3 1 1: {0, 2} leaves 1 1 0; both sound 5, the first by bits is {0, 2}
    due(20, "row(2, 0)", x.row(2, 0), 7);
    due(20, "row(2, 1)", x.row(2, 1), 5);
    due(20, "row(2, 2)", x.row(2, 2), 5);
    due(20, "row(2, 3)", x.row(2, 3), 6);
    due(20, "row(2, 4)", x.row(2, 4), -2);
    // then 1 1 0: one of them
    due(20, "row(3, 0)", x.row(3, 0), 8);
    due(20, "row(3, 4)", x.row(3, 4), 1);
    due(20, "row(0, 0)", x.row(0, 0), -10000);
    due(20, "row(4, 0)", x.row(4, 0), -10000);
    due(20, "row(1, 5)", x.row(1, 5), -10000);
    due(20, "row(1, -1)", x.row(1, -1), -10000);
    due(20, "nothing changes", x.count(5), 0);
    DutyBeats low = at("junction 1 9;road 2 12 0;road 2 12 1");
    due(20, "less WAITED goes ahead of HEARD", low.row(1, 1), -3);
    due(20, "both", low.row(1, 2), 3);
    due(20, "in place of the RULE", low.row(3, 3), 0);
    DutyBeats nobody = at("junction 1 1;road 0 7 0;road 0 5 3");
    nobody.beat();
    nobody.beat();
    due(20, "nobody to let in but who waits", nobody.row(3, 2), 3);
    DutyBeats empty = at("junction 1 1");
    due(20, "no ROADS", empty.row(3, 0) + empty.row(3, 1) + empty.row(3, 4), 0);
  }

  private static void leastRoom() {
    DutyBeats x = at("junction 1 9;road 20 1 0;score 0 0");
    due(21, "leastRoom(60)", x.leastRoom(60), 1);
    x.come(0, 3);
    due(21, "three more: 24 less 4", x.leastRoom(60), 4);
    x.come(0, 5);
    due(21, "eight more: 29 less 9", x.leastRoom(60), 9);
    x.come(0, 1);
    due(21, "nine more", x.leastRoom(60), -2);
    due(21, "leastRoom(0)", x.leastRoom(0), -1);
    due(21, "leastRoom(61)", x.leastRoom(61), -1);
    due(21, "nothing changes", x.count(1), 9);
    DutyBeats slow = at("junction 1 1;road 0 1 0");
    due(21, "20 BEATS", slow.leastRoom(20), 1);
    due(21, "21 BEATS", slow.leastRoom(21), -2);
    due(21, "no ROADS", at("junction 1 5").leastRoom(60), 1);
  }

  private static void shut() {
    DutyBeats x = at("junction 1 1;road 5 1 0;road 3 1 0;clash 0 1;score 0 0;score 0 1");
    // none: 6 - 1 and 4: 9; without 0: ROAD 1 waits 4 (0 is let in all the same); without 1: 5
    due(22, "shut(1, 0)", x.shut(1, 0), 0);
    due(22, "shut(1, 1)", x.shut(1, 1), 4);
    due(22, "shut(2, 1)", x.shut(2, 1), 9);
    due(22, "shut(0, 0)", x.shut(0, 0), -2);
    due(22, "shut(61, 0)", x.shut(61, 0), -2);
    due(22, "shut(1, 2)", x.shut(1, 2), -2);
    due(22, "shut(1, -1)", x.shut(1, -1), -2);
    due(22, "nothing changes", x.count(7), 8);
    x.beat();
    due(22, "what was WAITED counts", x.shut(1, 1), 4 + 5);
    DutyBeats none = at("junction 1 9;road 0 1 0;score 0 0");
    due(22, "none", none.shut(60, 0) * 10 + none.shut(60, 1), -10);
    DutyBeats two = at("junction 1 1;road 5 1 0;road 5 1 0");
    due(22, "the least", two.shut(3, 0), 0);
    // by wait: while any wait on ROAD 0, ROAD 1 is kept out
    DutyBeats rule = forced("junction 1 9;road 30 1 0;road 3 1 0", "let 0 if road = 0;let 1 if all = wait");
    due(22, "others go on by how it is then", rule.shut(1, 0) * 10 + rule.shut(1, 1), 0);
  }

  private static void longest() {
    DutyBeats x = at(SMALL);
    due(23, "longest(1, 0)", x.longest(1, 0), 3);
    due(23, "longest(3, 0)", x.longest(3, 0), 4);
    due(23, "longest(3, 1)", x.longest(3, 1), 2);
    due(23, "longest(3, 2)", x.longest(3, 2), 0);
    due(23, "longest(2, 1), the first", x.longest(2, 1), 0);
    due(23, "longest(0, 0)", x.longest(0, 0), -1);
    due(23, "longest(101, 0)", x.longest(101, 0), -1);
    due(23, "longest(1, 3)", x.longest(1, 3), -1);
    due(23, "longest(1, -1)", x.longest(1, -1), -1);
    x.beat();
    due(23, "the least ROAD", x.longest(1, 2), 0);
    due(23, "the BEAT", x.longest(1, 1), 1);
    DutyBeats empty = at("junction 1 1");
    due(23, "no ROADS", empty.longest(5, 0), 0);
    due(23, "no ROADS, BEAT", empty.longest(5, 1), -2);
    due(23, "no ROADS, ROAD", empty.longest(5, 2), -2);
    DutyBeats zero = at("junction 1 9;road 0 1 0;score 0 0");
    zero.beat();
    due(23, "nobody waits, from this BEAT", zero.longest(100, 0) * 100 + zero.longest(100, 1) * 10 + zero.longest(100, 2), 10);
    DutyBeats second = at("junction 1 1;road 3 12 0;road 5 12 0;road 5 12 0;score 0 1");
    due(23, "the fullest ROAD", second.longest(1, 0) * 10 + second.longest(1, 2), 62);
    due(21, "the fullest ROAD of several", at("junction 1 1;road 3 12 0;road 21 12 0").leastRoom(1), -2);
    due(23, "100 BEATS", at("junction 1 1;road 0 1 0").longest(100, 0), 100);
  }

  private static void cadenza() {
    DutyBeats x = at(SMALL);
    due(24, "cadenza(0)", x.cadenza(0), -2);
    due(24, "cadenza(1)", x.cadenza(1), 2);
    due(24, "cadenza(2)", x.cadenza(2), 1);
    due(24, "cadenza(3)", x.cadenza(3), -1);
    due(24, "cadenza(-1)", x.cadenza(-1), -1);
    beats(x, 2);
    due(24, "cadenza(2) later", x.cadenza(2), 4);
    DutyBeats silent = at("junction 1 9;road 0 5 0;road 0 3 0;score 0 0;score 0 1");
    due(24, "let in beside it, but none goes", silent.cadenza(0), 5);
    due(24, "and the other", silent.cadenza(1), 3);
    DutyBeats late = at("junction 1 1;road 0 1 0;road 0 12 0;clash 0 1;score 0 0;score 0 1");
    comes(late, 0, 3);
    due(24, "never", late.cadenza(1), -2);
  }

  private static void rests() {
    // alone and wide open: the more come, the more go: both EVERY 1
    DutyBeats x = at("junction 1 9;road 0 2 0;road 0 2 0;score 0 0;score 0 1");
    due(25, "rests(0, 1, 9, 0)", x.rests(0, 1, 9, 0), 1);
    due(25, "rests(0, 1, 9, 1)", x.rests(0, 1, 9, 1), 1);
    due(25, "rests(0, 1, 9, 2)", x.rests(0, 1, 9, 2), 1);
    due(25, "in one BEAT all are alike", x.rests(0, 1, 1, 0), 25);
    due(25, "rests(0, 0, 9, 0)", x.rests(0, 0, 9, 0), -1);
    due(25, "rests(0, 2, 9, 0)", x.rests(0, 2, 9, 0), -1);
    due(25, "rests(-1, 1, 9, 0)", x.rests(-1, 1, 9, 0), -1);
    due(25, "rests(0, 1, 0, 0)", x.rests(0, 1, 0, 0), -1);
    due(25, "rests(0, 1, 21, 0)", x.rests(0, 1, 21, 0), -1);
    due(25, "rests(0, 1, 9, 3)", x.rests(0, 1, 9, 3), -1);
    due(25, "rests(0, 1, 9, -1)", x.rests(0, 1, 9, -1), -1);
    due(25, "nothing changes", x.road(0, 1), 2);
    // ROAD 0 is never let in: of 9 BEATS EVERY 1: 9 wait, -3; 3: 3 wait, -1; 5: 2, 0; 7: 2, 0; 9: 1, 0
    DutyBeats kept = at("junction 1 9;road 0 2 0;road 0 2 0;score 0 1");
    due(25, "kept out", kept.rests(0, 1, 9, 0) * 100 + kept.rests(0, 1, 9, 1) * 10 + kept.rests(0, 1, 9, 2), 351);
    due(25, "the other way", kept.rests(1, 0, 9, 0) * 100 + kept.rests(1, 0, 9, 1) * 10 + kept.rests(1, 0, 9, 2), 315);
    // BEAT 1, EVERY 1 or not: 3 and 3 wait: 1, -1; 3 and 2: -1, 1; 2 and 3: 0, 1; 2 and 2: 0, 0
    DutyBeats chase = forced("junction 1 1;road 1 1 0;road 1 1 0",
        "let 1 if road = 0 and all % 5 = 1 or road = 1 and all % 2 = 1");
    due(25, "none", chase.rests(0, 1, 2, 0), 0);
    due(25, "none, first", chase.rests(0, 1, 2, 1), -2);
    due(25, "none, second", chase.rests(0, 1, 2, 2), -2);
    kept.beat();
    // BEATS 1 to 3: on ROAD 0 one waits: EVERY 1: 4, -1; all others 2 at most, 0; from ROAD 1 go 3, 1, 0, 0, 0
    due(25, "by the BEAT, not from now", kept.rests(0, 1, 3, 0) * 100 + kept.rests(0, 1, 3, 1) * 10 + kept.rests(0, 1, 3, 2), 431);
  }

  private static void ring() {
    DutyBeats x = at("junction 3 9;road 0 2 0;score 0 0;score 1 0;score 2 0");
    due(26, "ring(0)", x.ring(0), 0);
    due(26, "ring(1)", x.ring(1), 3);
    due(26, "ring(2)", x.ring(2), -1);
    due(26, "ring(-1)", x.ring(-1), -1);
    due(26, "nothing changes", x.count(5), 0);
    DutyBeats more = at("junction 1 1;road 0 1 0");
    due(26, "more and more", more.ring(0), -2);
    due(26, "more and more", more.ring(1), -2);
    // 5 wait; one goes more than comes for 5 BEATS, then none
    DutyBeats later = at("junction 2 2;road 5 1 0;score 0 0;score 1 0");
    due(26, "from BEAT 5 on", later.ring(0) * 10 + later.ring(1), 52);
    beats(later, 7);
    due(26, "from now on", later.ring(0) * 10 + later.ring(1), 72);
    // at begin of BEAT 59 and 60 for the first time nobody waits
    DutyBeats last = at("junction 1 2;road 30 1 0;score 0 0");
    comes(last, 0, 1);
    last.come(0, 9);
    due(26, "the 60th", last.ring(0) * 10 + last.ring(1), 591);
    last.come(0, 1);
    due(26, "the 61st", last.ring(0), -2);
    due(26, "no ROADS", at("junction 7 1").ring(1), 7);
  }

  private static void pence() {
    DutyBeats x = at(SMALL);
    due(27, "nobody WAITED", x.pence(100, 0), 0);
    beats(x, 3);
    // 10, 7 and 1 of 18: of 100 that is 55.55, 38.88, 5.55: 98, one each to ROAD 1 and ROAD 0
    due(27, "pence(100, 0)", x.pence(100, 0), 56);
    due(27, "pence(100, 1)", x.pence(100, 1), 39);
    due(27, "pence(100, 2)", x.pence(100, 2), 5);
    due(27, "pence(9999, 0)", x.pence(9999, 0), 5555);
    due(27, "pence(9999, 1)", x.pence(9999, 1), 3888 + 1);
    due(27, "pence(9999, 2)", x.pence(9999, 2), 555);
    due(27, "pence(18, 1)", x.pence(18, 1), 7);
    due(27, "pence(0, 1)", x.pence(0, 1), 0);
    due(27, "pence(-1, 1)", x.pence(-1, 1), -1);
    due(27, "pence(10000, 1)", x.pence(10000, 1), -1);
    due(27, "pence(1, 3)", x.pence(1, 3), -1);
    due(27, "pence(1, -1)", x.pence(1, -1), -1);
    DutyBeats even = at("junction 1 1;road 0 1 0;road 0 1 0;road 0 1 0");
    even.beat();
    due(27, "the least first", even.pence(2, 0) * 100 + even.pence(2, 1) * 10 + even.pence(2, 2), 110);
  }

  private static void note() {
    DutyBeats x = at(SMALL);
    due(28, "note(-2, 0, 0)", x.note(-2, 0, 0), -2);
    due(28, "note(61, 0, 0)", x.note(61, 0, 0), -2);
    due(28, "note(0, 3, 0)", x.note(0, 3, 0), -2);
    due(28, "note(0, -1, 0)", x.note(0, -1, 0), -2);
    due(28, "note(0, 0, -1)", x.note(0, 0, -1), -2);
    due(28, "note(0, 0, 10)", x.note(0, 0, 10), -2);
    due(28, "none", x.count(10), 0);
    due(28, "note(0, 0, 0)", x.note(0, 0, 0), 1);
    due(28, "note(60, 2, 9)", x.note(60, 2, 9), 2);
    for (int i = 3; i <= 10; i++) due(28, "note " + i, x.note(i, 0, 0), i);
    due(28, "an eleventh", x.note(0, 0, 0), -2);
    due(28, "ten", x.count(10), 10);
    due(28, "note(-1, 99, 99)", x.note(-1, 99, 99), 0);
    due(28, "none", x.count(10), 0);
  }

  private static void ruled() {
    DutyBeats x = at(SMALL, "let scored", "let 1", "let road");
    due(29, "ruled(0), no NOTES", x.ruled(0), 4);
    due(29, "ruled(1), no NOTES", x.ruled(1), -1);
    due(29, "ruled(2)", x.ruled(2), -3);
    due(29, "ruled(-1)", x.ruled(-1), -3);
    x.beat();
    x.come(0, 20);
    x.score(1, 1);
    x.force(2);
    x.note(0, 0, 2);
    due(29, "in BEAT 0 two from ROAD 0", x.ruled(0) * 10 + x.ruled(1), 29);
    x.note(1, 0, 2);
    due(29, "in BEAT 1 two from ROAD 0", x.ruled(0) * 10 + x.ruled(1), 11);
    x.note(1, 0, 1);
    due(29, "and one", x.ruled(0), 0);
    due(29, "none such", x.ruled(1), -2);
    x.note(-1, 0, 0);
    x.note(0, 0, 0);
    due(29, "let road", x.ruled(0) * 10 + x.ruled(1), 12);
    x.note(-1, 0, 0);
    // ROAD 2 gets its one of BEAT 60 in BEAT 61 by the score, but in BEAT 60 by let road
    x.note(60, 2, 1);
    due(29, "in BEAT 60", x.ruled(0) * 10 + x.ruled(1), 12);
    due(29, "nothing changes", x.count(5), 1);
    due(29, "no ROADS", at("junction 1 1").ruled(0), 1);
  }

  private static void look() {
    DutyBeats x = at(SMALL, "let scored", "let 1", "let road");
    // BEAT 0: from ROAD 0 go 2 2 2 0, from 1 go 2 2 2 2, from 2 go 0 0 0 1
    due(30, "look(0, 0)", x.look(0, 0), 0);
    due(30, "look(0, 1)", x.look(0, 1), 3);
    // BEAT 1: from ROAD 0: 0 0 2 0; 1: 0 0 2 2; 2: 1 1 0 0
    due(30, "look(1, 0)", x.look(1, 0), 1);
    due(30, "look(1, 1)", x.look(1, 1), 2);
    x.note(0, 0, 2);
    due(30, "look(1, 0) of three", x.look(1, 0), 0);
    due(30, "look(1, 1) of three", x.look(1, 1), 2);
    x.note(0, 0, 3);
    due(30, "no RULE is so", x.look(1, 0) * 10 + x.look(1, 1), -22);
    due(30, "look(-1, 0)", x.look(-1, 0), -1);
    due(30, "look(61, 0)", x.look(61, 0), -1);
    due(30, "look(60, 0)", x.look(60, 0), -2);
    due(30, "look(0, 2)", x.look(0, 2), -1);
    due(30, "look(0, -1)", x.look(0, -1), -1);
    due(30, "no ROADS", at("junction 1 1").look(0, 0), -2);
    due(30, "the score alone", at(SMALL).look(5, 1), 1);
  }

  private static void seed() {
    DutyBeats x = new DutyBeats();
    due(31, "seed(5)", x.seed(5), 0);
    due(31, "seed(-1)", x.seed(-1), -1);
    due(31, "seed(2147483647)", x.seed(2147483647), 5);
    due(31, "seed(0)", x.seed(0), 2147483647);
    due(31, "count(12)", x.count(12), 0);
  }

  private static void mornings() {
    DutyBeats x = at("junction 1 9;road 0 1 0;road 0 1 4;score 0 0;score 0 1");
    due(32, "p 0", x.mornings(3, 4, 0, 0), 3 * 4 * 2);
    due(32, "p 0, HEARD", x.mornings(3, 4, 0, 1), 3 * 4 * 3);
    // x 0: 12345, DRAW 0, below 1; then 1406932606, DRAW 21468, of 2 the rest 0
    due(32, "the first DRAW is 0", x.mornings(1, 1, 1, 0), 5);
    due(32, "p 100", x.mornings(2, 3, 100, 0), 2 * 3 * 5);
    due(32, "x as it was", x.count(12), 0);
    due(32, "nothing stays", x.count(5) + x.count(7), 0);
    // the third x: 654583775, DRAW 9988: 88; so in BEAT 1 none by p 88, one by p 89
    due(32, "p 88", x.mornings(1, 2, 88, 0), 5 + 2);
    due(32, "p 89", x.mornings(1, 2, 89, 0), 5 + 5);
    due(32, "the DRAWS go on in the next morning", x.mornings(2, 1, 88, 0), 5 + 2);
    DutyBeats one = at("junction 1 9;road 0 12 0;road 0 12 1;score 0 0;score 0 1");
    one.beat();
    due(32, "HEARD in these alone", one.heard() * 100 + one.mornings(10, 1, 0, 1), -300);
    due(32, "3 on ROAD 0", one.mornings(1, 1, 1, 0), 3);
    int[][] no = {{0, 1, 0, 0}, {11, 1, 0, 0}, {1, 0, 0, 0}, {1, 61, 0, 0}, {1, 1, -1, 0}, {1, 1, 101, 0}, {1, 1, 0, -1}, {1, 1, 0, 2}};
    for (int[] n : no) due(32, "mornings without these", x.mornings(n[0], n[1], n[2], n[3]), -100000);
    due(32, "no ROADS", at("junction 1 1").mornings(10, 60, 100, 0), 0);
    DutyBeats low = at("junction 1 9;road 0 1 0;road 0 1 1;score 0 0;score 0 1");
    due(32, "below 0", low.mornings(10, 60, 0, 1), -1800);
  }

  private static void count() {
    DutyBeats x = at(SMALL, "let 1", "let scored");
    x.force(1);
    beats(x, 4);
    x.wave(0);
    x.note(1, 1, 1);
    x.seed(9);
    x.feed(0, 0, 0, 0, 0);
    int[] want = {3, 2, 3, 2, 1, 4, 1, 2, 4 + 6 + 1 + 2 - 0, 22, 1, 5, 9, 20};
    // waits 2 1 1 less 2; went 4 6 1 and 2 waved
    for (int i = 0; i < want.length; i++) due(33, "count(" + i + ")", x.count(i), want[i]);
    due(33, "count(14)", x.count(14), -1);
    due(33, "count(-1)", x.count(-1), -1);
  }

  private static void heard() {
    DutyBeats x = at("junction 1 1;road 1 1 0;road 1 1 1;score 0 0;score 0 1");
    beats(x, 4);
    due(34, "below 0", x.heard(), -12);
    // 15 twos of 0 4 7 0 4 7: 12 of 8 = ... the most a BEAT can sound; 9999 is the end of it
    String chord = ";road 30 1 0;road 30 1 4;road 30 1 7;road 30 1 0;road 30 1 4;road 30 1 7";
    String all = ";score 0 0;score 0 1;score 0 2;score 0 3;score 0 4;score 0 5";
    DutyBeats loud = at("junction 1 1" + chord + all);
    loud.beat();
    due(34, "one BEAT of it", loud.heard(), 32);
    beats(loud, 311);
    due(34, "312 BEATS", loud.heard(), 9984);
    due(34, "ahead", loud.ahead(0, 1, 2), 9999);
    due(34, "row", loud.row(3, 1), 9999);
    beats(loud, 2);
    due(34, "9999 at most", loud.heard(), 9999);
    loud.tune(0, 1);
    loud.tune(3, 1);
    loud.tune(1, 0);
    loud.tune(4, 0);
    loud.tune(2, 1);
    loud.tune(5, 1);
    beats(loud, 1);
    due(34, "below again", loud.heard(), 9999 - 24);
  }
  private static void waited() {
    DutyBeats x = at("junction 1 1;road 30 1 0");
    comes(x, 0, 49);
    beats(x, 100);
    due(9, "WAITED of 100 BEATS", x.road(0, 5), 99900);
    beats(x, 1);
    due(9, "99999 at most", x.road(0, 5), 99999);
    due(9, "999 at most", x.road(0, 0), 999);
    due(19, "bestScore beyond it", x.bestScore(3, 0) * 10 + x.bestScore(3, 1), 999990 - 2);
  }

  private static void images() {
    DutyBeats x = at(SMALL, "let 1");
    due(35, "image(-1)", x.image(-1), -1);
    due(35, "image(4)", x.image(4), -1);
    due(36, "back(0), never made", x.back(0), -1);
    due(36, "back(-1)", x.back(-1), -1);
    due(36, "back(4)", x.back(4), -1);
    x.beat();
    x.note(0, 0, 2);
    x.seed(4);
    due(35, "image(3)", x.image(3), 1);
    due(35, "ACTS stay", x.count(11), 1);
    x.force(0);
    x.beat();
    x.come(1, 5);
    x.score(0, 2);
    x.tune(0, 5);
    x.seed(8);
    x.note(0, 0, 1);
    due(35, "image(0)", x.image(0), 2);
    tell(x, "let 2");
    x.rule();
    tell(x, "junction 1 1;road 1 1 1");
    x.junction();
    x.feed(0, 0, 0, 0, 0);
    due(36, "back(1), never made", x.back(1), -1);
    due(36, "nothing happens", x.count(2), 1);
    due(36, "back(3)", x.back(3), 1);
    int[] want = {3, 2, 3, 2, -1, 1, 1, 6, 4, 6, 1, 0, 4, 20};
    for (int i = 0; i < want.length; i++) due(36, "count(" + i + ") then", x.count(i), want[i]);
    due(36, "undo()", x.undo(), -1);
    due(36, "score", x.scored(0), 3);
    due(36, "part", x.road(0, 2), 0);
    due(36, "HEARD", x.heard(), 3);
    due(36, "NOTES of then", x.ruled(0), 3);
    due(36, "back(0)", x.back(0), 2);
    due(36, "what is there then", x.road(0, 2) * 100 + x.scored(0) * 10 + x.count(10), 500 + 70 + 2);
    due(36, "IN FORCE then", x.count(4), 0);
    due(36, "x then", x.count(12), 8);
    x.beat();
    due(36, "IMAGES stay", x.back(0), 2);
    due(36, "nothing can be UNDONE", x.count(11) * 10 + x.undo(), -1);
    due(36, "the text as it was told", x.ruled(0), 0);
    DutyBeats empty = new DutyBeats();
    due(35, "without a JUNCTION", empty.image(0), 0);
    tell(empty, SMALL);
    empty.junction();
    empty.beat();
    due(36, "back to no JUNCTION", empty.back(0), 0);
    due(36, "no BEAT", empty.beat(), -1);
    due(36, "no ROADS", empty.count(2) + empty.count(0), 0);
  }

  /** What README.md shows. */
  private static void readme() {
    DutyBeats x = new DutyBeats();
    tell(x, "junction 3 2;road 4 2 0;road 3 1 4;clash 0 1;score 0 0;score 1 1");
    due(4, "README: junction()", x.junction(), 2);
    due(9, "README: beat()", x.beat(), 1);
    due(7, "README: road(0, 0)", x.road(0, 0), 3);
    due(15, "README: ahead(1, 5, 1)", x.ahead(1, 5, 1), 4);
    tell(x, "let 1 if wait > 3 or since > 1; let scored");
    due(5, "README: rule()", x.rule(), 0);
    due(6, "README: force(0)", x.force(0), -1);
    due(9, "README: beat() by the RULE", x.beat(), 2);
    due(14, "README: undo()", x.undo(), 1);
    tell(x, "let 1 if wait >");
    due(5, "README: rule() of a faulty text", x.rule(), -123);
  }

  public static void main(String[] args) {
    newObject();
    tape();
    junctionFaults();
    junctionNumbers();
    junctionSigns();
    junctionClauses();
    junctionReplaces();
    ruleFaults();
    ruleLimits();
    ruleCount();
    force();
    roads();
    scored();
    beat();
    sounds();
    words();
    clauses();
    come();
    wave();
    score();
    tune();
    undo();
    ahead();
    clear();
    chord();
    beatsOfScore();
    bestScore();
    row();
    leastRoom();
    shut();
    longest();
    cadenza();
    rests();
    ring();
    pence();
    note();
    ruled();
    look();
    seed();
    mornings();
    count();
    heard();
    waited();
    images();
    readme();
    System.out.println("PromisesTest: " + asked + " asked, " + wrong + " wrong");
    if (wrong != 0) System.exit(1);
  }
}
