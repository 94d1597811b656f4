/** Boundaries of the TAPE, of the texts and of their FAULTS: promises 1 to 6. */
final class TextBoundaries extends Sentences {
  private static final String ONE = "junction 1 1;road 5 1 0";
  private static final String FORTY = "junction 1 1;road 0 1 0" + times(";score0 0", 38);
  private static final String SIX_ROADS = "junction 1 1" + times(";road 0 1 0", 6);
  private static final String SIXTY = "let 1" + times("+1", 59);

  private TextBoundaries() { }

  private static DutyBeats fed(int bytes) {
    DutyBeats x = new DutyBeats();
    for (int i = 0; i < (bytes + 19) / 20; i++) x.feed(0, 0, 0, 0, 0);
    x.end(bytes);
    return x;
  }
  private static DutyBeats emptied() {
    DutyBeats x = busy();
    x.end(0);
    return x;
  }
  private static DutyBeats sixRules() {
    DutyBeats x = at(SMALL, "let 0", "let 1", "let 2", "let 3", "let 4", "let 5");
    tell(x, "let 6");
    return x;
  }

  // ---- promise 1

  private static void the512thCall() {
    sentence(1, "An object is used for at most 512 calls after it has been made; what later calls answer is free.");
    DutyBeats x = new DutyBeats();
    tell(x, "junction 5 1;road 0 1 0"); // end, feed, feed, end
    x.junction();
    beats(x, 506);
    due("the 512th call, count(5)", x.count(5), 506);
  }
  private static void aNewObject() {
    sentence(1, "No JUNCTION, no RULES, none IN FORCE.");
    int[] counts = {0, 0, 0, 0, -1, 0, 0, 0, 0, 0, 0, 0, 0, 0};
    for (int what = 0; what < counts.length; what++) due("count(" + what + ")", new DutyBeats().count(what), counts[what]);
    due("heard()", new DutyBeats().heard(), 0);
    due("road(0, 0)", new DutyBeats().road(0, 0), -1);
    due("scored(0)", new DutyBeats().scored(0), -1);
    due("force(0)", new DutyBeats().force(0), -2);
    due("force(NONE)", new DutyBeats().force(-1), -1);
    due("undo()", new DutyBeats().undo(), -1);
    for (int k = 0; k < 4; k++) due("back(" + k + ")", new DutyBeats().back(k), -1);
  }
  private static void theConstant() {
    sentence(1, "`NONE = -1`: None.");
    due("NONE", DutyBeats.NONE, -1);
  }

  // ---- promises 2 and 3

  private static void bytesComeBehind() {
    sentence(2, "Twenty bytes come behind the TAPE, of each number the highest first: how many it has");
    DutyBeats x = new DutyBeats();
    due("to the empty TAPE", x.feed(0x6c657420, 0x20202020, 0x20202020, 0x20202020, 0x20202020), 20);
    due("behind 20 bytes", x.feed(0x31202020, 0x20202020, 0x20202020, 0x20202020, 0x2020203b), 40);
    x.end(39);
    due("let, blanks and 1", x.rule(), 0);
    x.end(0);
    due("numbers below 0", x.feed(-1, -1, -1, -1, -1), 20);
    due("byte 255 can't stand", x.rule(), -3);
    x.feed(0x206c6574, 0x20303031, 0x20, 0x20202020, 0x20202020);
    due("byte 0 can't stand, the 9th", x.rule(), -2 - (1 + 8 * 8));
  }
  private static void noMoreThan400() {
    sentence(2, "NONE, and none comes, if it would have more than 400.");
    due("380 and 20", fed(380).feed(1, 2, 3, 4, 5), 400);
    still("381 and 20", () -> fed(381), x -> x.feed(1, 2, 3, 4, 5), -1);
    still("399 and 20", () -> fed(399), x -> x.feed(1, 2, 3, 4, 5), -1);
    still("400 and 20", () -> fed(400), x -> x.feed(1, 2, 3, 4, 5), -1);
    due("none came", fed(400).count(13), 400);
  }
  private static void firstBytesAlone() {
    sentence(3, "The TAPE has its first n bytes alone: n");
    DutyBeats x = fed(400);
    due("all of them", x.end(400), 400);
    due("one fewer", x.end(399), 399);
    due("of bytes", x.count(13), 399);
    due("none", x.end(0), 0);
    due("of bytes", x.count(13), 0);
    due("none of none", x.end(0), 0);
    tell(x, "let 1 x");
    x.end(5);
    due("the first stay", x.rule(), 0);
    // what is cut is gone, even if it would go on well
    tell(x, "let 1 if 1<=1");
    x.end(11);
    due("< of <=", x.rule(), -2 - (1 + 8 * 11));
    tell(x, "let wait");
    x.end(7);
    due("wai of wait", x.rule(), -2 - (1 + 8 * 4));
    tell(x, "let 123456");
    x.end(9);
    due("five digits of six", x.rule(), 1);
  }
  private static void notSoMany() {
    sentence(3, "NONE, and nothing happens, if it has not so many, or n is below 0.");
    still("end(21) of 20", Sentences::busy, x -> x.end(21), -1);
    still("end(1) of none", Sentences::empty, x -> x.end(1), -1);
    still("end(401) of 400", () -> fed(400), x -> x.end(401), -1);
    still("end(-1)", Sentences::busy, x -> x.end(-1), -1);
    still("end of the least number", Sentences::busy, x -> x.end(Integer.MIN_VALUE), -1);
    still("end of the most", Sentences::busy, x -> x.end(Integer.MAX_VALUE), -1);
  }

  // ---- promise 4, and the text of a JUNCTION

  private static void aTextOf400Bytes() {
    sentence(4, "A JUNCTION is a text of at most 400 bytes");
    DutyBeats x = junctionStands("junction 1 1" + times(" ", 400 - 23) + ";road 7 1 0", 1);
    due("the ROAD at its end", x.road(0, 0), 7);
    junctionFault("junction 1" + times(" ", 390) + "^", 0);
    due("a 401st byte", fed(400).feed(0, 0, 0, 0, 0), -1);
  }
  private static void fortyClauses() {
    sentence(4, "CLAUSE { ; CLAUSE }, 40 at most");
    junctionStands("junction 1 1", 0);
    junctionStands(FORTY, 1);
    junctionFault(FORTY + ";^score0 0", 4);
    junctionFault("junction 1 1;^", 0);
    junctionFault("^;junction 1 1", 0);
    junctionFault("junction 1 1;^;road 0 1 0", 0);
  }
  private static void bar() {
    sentence(4, "BAR 1 to 12, beats");
    junctionFault("junction ^0 1", 1);
    due("BAR 1", junctionStands("junction 1 1", 0).count(0), 1);
    due("BAR 12", junctionStands("junction 12 1", 0).count(0), 12);
    junctionFault("junction ^13 1", 1);
  }
  private static void room() {
    sentence(4, "ROOM 1 to 9");
    junctionFault("junction 1 ^0", 1);
    due("ROOM 1", junctionStands("junction 1 1", 0).count(1), 1);
    due("ROOM 9", junctionStands("junction 1 9", 0).count(1), 9);
    junctionFault("junction 1 ^10", 1);
  }
  private static void onceAndFirst() {
    sentence(4, "once, the first CLAUSE");
    junctionFault("junction 1 1;^junction 1 1", 4);
    junctionFault("^road 0 1 0;junction 1 1", 4);
    junctionFault("^score 0 0", 4);
    junctionFault("^clash 0 1", 4);
  }
  private static void waitOfARoad() {
    sentence(4, "WAIT 0 to 30, how many");
    due("WAIT 0", junctionStands("junction 1 1;road 0 1 0", 1).road(0, 0), 0);
    due("WAIT 30", junctionStands("junction 1 1;road 30 1 0", 1).road(0, 0), 30);
    junctionFault("junction 1 1;road ^31 1 0", 1);
  }
  private static void everyOfARoad() {
    sentence(4, "EVERY 1 to 12");
    junctionFault("junction 1 1;road 0 ^0 0", 1);
    due("EVERY 1", junctionStands("junction 1 1;road 0 1 0", 1).road(0, 1), 1);
    due("EVERY 12", junctionStands("junction 1 1;road 0 12 0", 1).road(0, 1), 12);
    junctionFault("junction 1 1;road 0 ^13 0", 1);
  }
  private static void partOfARoad() {
    sentence(4, "PART 0 to 11");
    due("PART 0", junctionStands("junction 1 1;road 0 1 0", 1).road(0, 2), 0);
    due("PART 11", junctionStands("junction 1 1;road 0 1 11", 1).road(0, 2), 11);
    junctionFault("junction 1 1;road 0 1 ^12", 1);
  }
  private static void clashOfToldRoads() {
    sentence(4, "clash NUMBER NUMBER (two ROADS that were told; told already: nothing new)");
    DutyBeats x = junctionStands("junction 1 1;road 0 1 0;road 0 1 0;road 0 1 0;clash 0 2;clash 2 0;clash 0 2", 3);
    due("clashes", row(x.road(0, 3), x.road(1, 3), x.road(2, 3)), 4, 0, 1);
    junctionFault("junction 1 1;clash ^0 1", 1);
    junctionFault("junction 1 1;road 0 1 0;road 0 1 0;clash ^2 0", 1);
    junctionFault("junction 1 1;road 0 1 0;road 0 1 0;clash 0 ^2", 1);
    junctionFault("junction 1 1;road 0 1 0;clash 0 ^1;road 0 1 0", 1);
  }
  private static void scoreOfToldBeatsAndRoads() {
    sentence(4, "score NUMBER NUMBER (a beat of the BAR, 0 to BAR - 1; a ROAD that was told; told already: nothing new)");
    DutyBeats x = junctionStands("junction 3 1;road 0 1 0;score 0 0;score 2 0;score 2 0", 1);
    due("score", row(x.scored(0), x.scored(1), x.scored(2)), 1, 0, 1);
    junctionFault("junction 3 1;road 0 1 0;score ^3 0", 1);
    junctionFault("junction 1 1;road 0 1 0;score ^1 0", 1);
    junctionFault("junction 3 1;road 0 1 0;score 2 ^1", 1);
    junctionFault("junction 3 1;score 0 ^0", 1);
    due("beat 11 of 12", junctionStands("junction 12 1;road 0 1 0;score 11 0", 1).scored(11), 1);
    junctionFault("junction 12 1;road 0 1 0;score ^12 0", 1);
  }
  private static void sixRoads() {
    sentence(4, "ROADS 0 to 5, in the order told.");
    junctionStands("junction 1 1", 0);
    DutyBeats x = junctionStands("junction 1 1;road 6 1 0;road 5 1 0;road 4 1 0;road 3 1 0;road 2 1 0;road 1 1 0", 6);
    for (int road = 0; road < 6; road++) due("wait of ROAD " + road, x.road(road, 0), 6 - road);
    due("ROAD 6", x.road(6, 0), -1);
    junctionFault(SIX_ROADS + ";^road 0 1 0", 4);
  }
  private static void fromTheBegin() {
    sentence(4, "It is BEAT 0; nobody went, nothing sounded.");
    DutyBeats x = emptied();
    due("ahead of it", row(x.count(5), x.count(8), x.heard()), 2, 7, 3);
    x.ahead(0, 100, 0);
    tell(x, "junction 3 2;road 4 2 0;road 3 1 4;road 0 3 7");
    x.junction();
    due("BEAT, beat of the BAR, went, WAITED, HEARD", row(x.count(5), x.count(6), x.count(8), x.count(9), x.heard()), 0, 0, 0, 0, 0);
    for (int road = 0; road < 3; road++) {
      due("clash, went, WAITED, since of " + road, row(x.road(road, 3), x.road(road, 4), x.road(road, 5), x.road(road, 6)), 0, 0, 0, 99);
    }
    due("score", row(x.scored(0), x.scored(1), x.scored(2)), 0, 0, 0);
  }
  private static void inPlaceOfTheOneThereWas() {
    sentence(4, "The TAPE, which is empty then, is the JUNCTION in place of the one there was");
    DutyBeats x = emptied();
    tell(x, "junction 2 5");
    due("junction()", x.junction(), 0);
    due("the TAPE", x.count(13), 0);
    due("BAR, ROOM, ROADS, wait on all", row(x.count(0), x.count(1), x.count(2), x.count(7)), 2, 5, 0, 0);
    due("of the one there was", row(x.road(0, 0), x.scored(0), x.scored(1), x.scored(2)), -1, 0, 0, -1);
    due("of an empty TAPE", x.junction(), -3);
  }
  private static void whatGoesAndWhatStays() {
    sentence(4, "(no NOTES, nothing to be UNDONE; the RULE IN FORCE and x stay)");
    DutyBeats x = emptied();
    due("NOTES, ACTS, IN FORCE, x ahead", row(x.count(10), x.count(11), x.count(4), x.count(12)), 1, 6, 1, 77);
    tell(x, SMALL);
    x.junction();
    due("NOTES, ACTS, IN FORCE, x then", row(x.count(10), x.count(11), x.count(4), x.count(12)), 0, 0, 1, 77);
    due("undo()", x.undo(), -1);
    due("RULES", x.count(3), 2);
    due("IMAGES", x.back(0), 2);
  }
  private static void allStaysBehindAFault() {
    sentence(4, "-2 - its FAULT, and all stays.");
    String[] marked = {"^", "junction ^0 1", "junction 1 1;^junction 1 1", "junction 1 1;road 9 9 9;score 0 0;clash 0 ^0"};
    int[] kinds = {0, 1, 4, 1};
    for (int i = 0; i < marked.length; i++) {
      String text = bare(marked[i]);
      still("junction of " + marked[i], TextBoundaries::emptied, x -> {
        tell(x, text);
        return x.junction();
      }, faultAt(marked[i], kinds[i]));
    }
  }

  // ---- promise 5, and the text of a RULE

  private static void rules0To5() {
    sentence(5, "RULES 0 to 5: texts likewise");
    DutyBeats x = new DutyBeats();
    for (int i = 0; i < 6; i++) {
      tell(x, "let" + times(" ", 396) + i);
      due("RULE " + i + " of 400 bytes", x.rule(), i);
    }
    due("RULES", x.count(3), 6);
    ruleFault("let" + times(" ", 397) + "^", 0);
  }
  private static void aRuleAndItsNumber() {
    sentence(5, "The TAPE, which is empty then, is a RULE: its number; -2 - its FAULT");
    DutyBeats x = new DutyBeats();
    tell(x, "let 1");
    due("rule()", x.rule(), 0);
    due("the TAPE", x.count(13), 0);
    due("of an empty TAPE", x.rule(), -3);
    still("of a FAULT", TextBoundaries::emptied, y -> {
      tell(y, "let 1;let x");
      return y.rule();
    }, faultAt("let 1;let ^x", 0));
    still("of a FAULT at the 13th CLAUSE", TextBoundaries::emptied, y -> {
      tell(y, times("let 1;", 12) + "let 1");
      return y.rule();
    }, faultAt(times("let 1;", 12) + "^let 1", 4));
  }
  private static void thereAreSix() {
    sentence(5, "NONE, and nothing happens: there are 6.");
    still("a seventh", TextBoundaries::sixRules, DutyBeats::rule, -1);
    still("a seventh with a FAULT", () -> {
      DutyBeats x = sixRules();
      tell(x, "let x");
      return x;
    }, DutyBeats::rule, -1);
    due("the TAPE stays", row(sixRules().rule(), sixRules().count(13)), -1, 5);
  }
  private static void twelveClauses() {
    sentence(5, "12 CLAUSES at most");
    ruleStands("let 1");
    ruleStands(times("let 1;", 11) + "let 1");
    ruleFault(times("let 1;", 12) + "^let 1", 4);
    letsIn(ONE, times("let 1 if 1=2;", 11) + "let 1", 1);
    ruleFault("let 1;^", 0);
  }
  private static void fiveDigits() {
    sentence(5, "NUMBER (1 to 5 digits, as far as digits go on)");
    ruleStands("let 0");
    letsIn(ONE, "let 99999-99998", 1);
    letsIn(ONE, "let 99999-99999", 0);
    letsIn(ONE, "let 00001", 1);
    ruleFault("let ^100000", 1);
    ruleFault("let ^000001", 1);
    ruleFault("let 1+^99999999999999999999", 1);
    ruleFault("let 12 ^3", 0);
    due("BAR 00012", junctionStands("junction 00012 00009", 0).count(0), 12);
    junctionFault("junction ^000012 9", 1);
    junctionFault("junction ^4294967297 9", 1);
    junctionFault("junction ^18446744073709551617 9", 1);
  }
  private static void smallLetters() {
    sentence(5, "WORDS (small letters, as far as these go on)");
    ruleFault("^letwait", 0);
    ruleFault("let ^waits", 0);
    ruleFault("let ^wai", 0);
    ruleFault("let ^Wait", 0);
    ruleFault("let wait^S", 0);
    ruleFault("let wait^1", 0);
    ruleStands("let1if1=1and wait=1");
    ruleFault("let1if1=^andwait=1", 0);
    ruleFault("let ^waiu", 0);
    ruleFault("let ^waitz", 0);
    ruleFault("let ^ait", 0);
    ruleFault("let ^oad", 0);
    ruleFault("let ^waitevery", 0);
    ruleFault("let ^`", 0);
    ruleFault("let ^{", 0);
    junctionFault("^junctions 1 1", 0);
    junctionFault("^junctio 1 1", 0);
  }
  private static void blanks() {
    sentence(5, "Blanks (32) stand between as one likes.");
    ruleStands("let1if1=1and2=2or3=3");
    ruleStands("   let   1   if   1   <=   1   and   [   2 = 2   ]   ");
    ruleStands("let 1;let 2");
    ruleStands("let 1 ;   let 2");
    ruleFault("^l et 1", 0);
    ruleFault("let 1 ^0", 0);
    ruleFault("let 1 if 1 < ^= 1", 0);
    ruleFault("let 1 if 1 > ^= 1", 0);
    ruleFault("let^\t1", 0);
    ruleFault("let^\n1", 0);
    ruleFault("let^\u00001", 0);
    ruleFault("let^\u00a01", 0);
    junctionStands("  junction12 9;road0 1 0 ; road 30 12 11;clash0 1;score11 1  ", 2);
  }
  private static void tenDeep() {
    sentence(5, "[ and not lie within one another 10 deep at most");
    ruleStands("let 1 if " + times("not ", 10) + "1=1");
    ruleStands("let 1 if " + times("[", 10) + "1=1" + times("]", 10));
    ruleStands("let 1 if " + times("[not ", 5) + "1=1" + times("]", 5));
    ruleFault("let 1 if " + times("not ", 10) + "^not 1=1", 2);
    ruleFault("let 1 if " + times("[", 10) + "^[1=1" + times("]", 11), 2);
    ruleFault("let 1 if " + times("[not ", 5) + "^[1=1]" + times("]", 5), 2);
    ruleStands("let 1 if " + times("[", 10) + "1=1" + times("]", 10) + "and " + times("not ", 10) + "1=1;let 2 if not 1=1");
    ruleFault("let 1 if [1=1] and " + times("[", 10) + "^[1=1", 2);
  }
  private static void sixtyValuesAndFacts() {
    sentence(5, "at most 60 VALUES (of SUMS) and FACTS made of a SIGN, together");
    ruleStands(SIXTY);
    ruleFault(SIXTY + "+^1", 3);
    ruleStands("let 1" + times("+wait", 56) + " if 1=1");
    ruleStands("let 1;let 1" + times("+1", 55) + " if 1=1");
    ruleFault("let 1;let 1" + times("+1", 55) + " if 1=1+^1", 3);
    // not, brackets, and and or are free: 1 and 3 * 19 and 1 and the SIGN
    ruleStands("let 1 if " + times("[not 1=1] or ", 18) + "1=1+1+1");
    ruleFault("let 1 if " + times("[not 1=1] or ", 18) + "1=1+1+1+^1", 3);
    DutyBeats x = at(ONE, SIXTY, SIXTY, SIXTY, SIXTY, SIXTY, SIXTY);
    due("each RULE has 60", x.count(3), 6);
    letsIn(ONE, SIXTY, 1);
    letsIn(ONE, "let 1" + times("+1", 29) + times("-1", 29) + "-1", 0);
  }
  private static void signsWhereBothAreEqual() {
    sentence(5, "SUM SIGN SUM, SIGN one of < <= = >= >");
    String[] signs = {"<", "<=", "=", ">=", ">"};
    int[][] holds = {{1, 0, 0}, {1, 1, 0}, {0, 1, 0}, {0, 1, 1}, {0, 0, 1}};
    for (int i = 0; i < 5; i++) {
      letsIn(ONE, "let 1 if 4" + signs[i] + "5", holds[i][0]);
      letsIn(ONE, "let 1 if 5" + signs[i] + "5", holds[i][1]);
      letsIn(ONE, "let 1 if 6" + signs[i] + "5", holds[i][2]);
    }
    letsIn(ONE, "let 1 if 0-1<0", 1);
    letsIn(ONE, "let 1 if 65536*65536>65536", 1);
  }
  private static void notAndBrackets() {
    sentence(5, "FACT: not FACT | [ TEST ] (these brackets are signs)");
    letsIn(ONE, "let 1 if not 1=1", 0);
    letsIn(ONE, "let 1 if not 1=2", 1);
    letsIn(ONE, "let 1 if " + times("not ", 9) + "1=2", 1);
    letsIn(ONE, "let 1 if " + times("not ", 10) + "1=2", 0);
    letsIn(ONE, "let 1 if not 1=2 and 1=2", 0);
    letsIn(ONE, "let 1 if not [1=2 and 1=2]", 1);
    letsIn(ONE, "let 1 if 1=1 or 1=1 and 1=2", 1);
    letsIn(ONE, "let 1 if [1=1 or 1=1] and 1=2", 0);
    letsIn(ONE, "let 1 if " + times("1=2 or [", 10) + "1=1" + times("]", 10), 1);
    letsIn(ONE, "let 1 if " + times("1=1 and [", 10) + "1=2" + times("]", 10), 0);
    letsIn(ONE, "let 1 if 1=2 or 1=1 and [" + times("[", 9) + "1=2 or 1=1 and 2*2+1=1+2*2" + times("]", 10), 1);
  }
  private static void scoredOrNot() {
    sentence(5, "scored (1 if the score lets it in on this beat, else 0)");
    DutyBeats x = forced("junction 2 1;road 9 1 0;road 9 1 0;score 1 1", "let scored");
    due("BEATS 0 to 3", row(x.beat(), x.beat(), x.beat(), x.beat()), 0, 2, 0, 2);
    letsIn("junction 1 1;road 9 1 0;score 0 0", "let scored-1", 0);
    letsIn("junction 1 1;road 9 1 0", "let scored+1", 1);
  }
  private static void soundBelow0() {
    sentence(5, "sound (how much more SOUND these have with it than without, below 0, too)");
    String two = "junction 1 1;road 9 1 0;road 9 1 1";
    letsIn(two, "let 1 if road=0;let 0-sound-2", 3);
    letsIn(two, "let 1 if road=0;let 0-sound-3", 1);
    letsIn(two, "let 1 if sound=0", 1);
    letsIn("junction 1 1;road 9 1 0;road 9 1 4;road 9 1 7", "let 1 if road<2;let sound-4", 7);
    letsIn("junction 1 1;road 9 1 0;road 9 1 4;road 9 1 7", "let 1 if road<2;let sound-5", 3);
  }
  private static void sinceOrNever() {
    sentence(5, "since (BEATS since it was let in last; 99 at most, or never)");
    letsIn(ONE, "let since-98", 1);
    letsIn(ONE, "let since-99", 0);
    DutyBeats x = forced(ONE, "let 1 if since=99");
    due("BEAT 0, never", x.beat(), 1);
    for (int i = 1; i < 99; i++) due("since " + i, x.beat(), 0);
    due("since 99", x.beat(), 1);
    DutyBeats y = forced(ONE, "let 1 if hour=0;let 1 if hour=120 and since=99");
    beats(y, 120);
    due("since 120 is 99", y.beat(), 1);
  }
  private static void by0() {
    sentence(5, "/ is towards 0, % its rest, both 0 by 0");
    letsIn(ONE, "let 5/0", 0);
    letsIn(ONE, "let 5/0+1", 1);
    letsIn(ONE, "let 5%0", 0);
    letsIn(ONE, "let 1-5%0", 1);
    letsIn(ONE, "let 0/0+0%0+1", 1);
    letsIn(ONE, "let 1 if 7/2=3 and 7%2=1 and 6/2=3 and 6%2=0", 1);
    // sound is -3, so -3 / 2 is -1, not -2
    letsIn("junction 1 1;road 9 1 0;road 9 1 1", "let 1 if road=0;let 1 if sound/2=0-1 and sound%2=0-1", 3);
  }
  private static void roundIn64Bits() {
    sentence(5, "all goes round in 64 bits");
    String half = "65536*65536*65536*32768";
    letsIn(ONE, "let 65536*65536*65536*65536", 0);
    letsIn(ONE, "let 1-65536*65536*65536*65536", 1);
    letsIn(ONE, "let " + half, 0);
    letsIn(ONE, "let " + half + "-1", 1);
    letsIn(ONE, "let 65536*32768", 1);
    letsIn(ONE, "let 65536*65536", 1);
    // sound is -1: the least number by it is itself again, and its rest is 0
    String two = "junction 1 1;road 9 1 0;road 9 1 2";
    letsIn(two, "let 1 if road=0;let " + half + "/sound-1", 3);
    letsIn(two, "let 1 if road=0;let 1 if " + half + "%sound=0", 3);
  }

  // ---- FAULTS

  private static void theFirstAlongTheText() {
    sentence(4, "FAULTS, the first along the text, 1 + 8 * its place");
    junctionFault("junction ^0 0", 1);
    junctionFault("junction ^13 x", 1);
    junctionFault("junction ^x 13", 0);
    junctionFault("junction 1 1;road ^99 0 12;junction", 1);
    ruleFault("let ^x;lets", 0);
    ruleFault("let ^123456+x", 1);
    due("place 0", junctionOf("x"), -2 - 1);
    due("place 399", junctionOf("junction 1 1" + times(" ", 387) + "x"), -2 - (1 + 8 * 399));
  }
  private static int junctionOf(String text) {
    DutyBeats x = new DutyBeats();
    tell(x, text);
    return x.junction();
  }
  private static void cannotStandThere() {
    sentence(5, "0 a byte or WORD that can't stand there, or the end (behind the last byte)");
    for (String marked : new String[] {"^", "   ^", "junction^", "junction 5^", "junction 5   ^", "^Junction 1 1", "^5", "junction ^x 1",
        "junction 1 1 ^1", "junction 1 1 ^123456", "junction 1 1^x", "junction 1 1^,", "junction 1 ^-1", "junction 1 1;^let 1",
        "junction 1 1;road 0^;", "junction 1 1;road 0 1^", "junction 1 1;road 0 1 0;clash^", "junction 1 1;road 0 1 0;score 0^"}) junctionFault(marked, 0);
    for (String marked : new String[] {"^", "  ^", "let^", "let 1;^", "let ^if 1=1", "let ^not", "let ^[1]", "let ^-1", "let 5 %^", "let 1 ^< 2",
        "let 1 if^", "let 1 if wait^", "let 1 if wait ^and 1=1", "let 1 if wait <^", "let 1 if wait =^< 2", "let 1 if wait =^> 2",
        "let 1 if wait =^= 2", "let 1 if wait <=^= 2", "let 1 if 1<2^<3", "let 1 if 1=1^]", "let 1 if [1=1^", "let 1 if [^]", "let 1 if [wait^]",
        "let 1 if not^", "let 1 if 1=1 and^", "let 1 if 1=1 or ^or 1=1", "let 1 if 1=1 ^if 1=1", "let 1 if 1=1 ^let 1", "^junction 1 1",
        "let 1 if ^junction=1", "let 1 if 1^!1", "let ^\u00ff", "let 1+^+1", "let 1 if 1=1 ^not 1=1", "let 1 if [1=1]^[1=1]"}) ruleFault(marked, 0);
  }
  private static void notAsTold() {
    sentence(4, "1 a NUMBER of more digits, or not as told (of clash the second ROAD, if it is the first)");
    junctionFault("junction ^123456 1", 1);
    junctionFault("junction 1 ^000001", 1);
    junctionFault("junction 1 1;road 0 1 0;road 0 1 0;clash 0 ^0", 1);
    junctionFault("junction 1 1;road 0 1 0;road 0 1 0;clash 1 ^1", 1);
    junctionFault("junction 1 1;road 0 1 0;road 0 1 0;clash 1 ^00001;x", 1);
    junctionFault("junction 1 1;road 0 1 0;road 0 1 0;clash ^2 2", 1);
    ruleFault("let ^123456", 1);
  }
  private static void tooDeep() {
    sentence(5, "2 too deep (at the sign that opens, or the word not)");
    ruleFault("let 1 if " + times("[", 10) + "  ^[", 2);
    ruleFault("let 1 if " + times("[", 10) + "  ^not", 2);
    ruleFault("let 1 if " + times("not ", 10) + "^[", 2);
    ruleFault("let 1 if " + times("not ", 10) + "^not", 2);
    ruleFault("let 1 if " + times("not ", 10) + "^notwait=1", 0);
  }
  private static void oneValueOrFactTooMany() {
    sentence(5, "3 one VALUE or FACT too many (at its first byte; of a FACT at its SIGN)");
    ruleFault(SIXTY + "+  ^99999", 3);
    ruleFault(SIXTY + "+ ^wait", 3);
    ruleFault(SIXTY + ";let ^1", 3);
    ruleFault(SIXTY + " if ^1=1", 3);
    ruleFault("let 1" + times("+1", 58) + " if 1 ^=1", 3);
    ruleFault("let 1" + times("+1", 58) + " if 1 ^<=x", 3);
    ruleFault("let 1" + times("+1", 57) + " if 1= ^1", 3);
    ruleFault("let 1" + times("+1", 56) + " if 1=1 and ^1=1", 3);
  }
  private static void oneClauseTooMany() {
    sentence(4, "4 one CLAUSE too many, a second junction, another CLAUSE ahead of it, a seventh ROAD (at its first byte)");
    junctionFault(FORTY + "; ^clash x", 4);
    junctionFault(FORTY + "; ^road", 4);
    junctionFault("junction 1 1; ^junction x", 4);
    junctionFault("junction 1 1;road 0 1 0;^junction", 4);
    junctionFault("  ^road x", 4);
    junctionFault(" ^clash", 4);
    junctionFault(" ^score 1", 4);
    junctionFault(SIX_ROADS + ";  ^road", 4);
    junctionStands(SIX_ROADS + ";score 0 5;clash 5 4", 6);
    ruleFault(times("let 1;", 12) + " ^let x", 4);
  }
  private static void ofOnePlaceTheLeast() {
    sentence(5, "Of one place the least.");
    junctionFault(FORTY + ";^x", 0);
    junctionFault(FORTY + ";^", 0);
    ruleFault(times("let 1;", 12) + "^lets", 0);
    ruleFault(times("let 1;", 12) + "^", 0);
    ruleFault(SIXTY + "+^123456", 1);
    ruleFault(SIXTY + "+^word", 0);
    ruleFault(SIXTY + "+^", 0);
    ruleFault("let 1" + times("+1", 58) + " if 1^]", 0);
    ruleFault("let 1" + times("+1", 58) + " if 1^", 0);
  }

  // ---- promise 6

  private static void inForceOrNone() {
    sentence(6, "A RULE is IN FORCE (NONE: none): which was");
    DutyBeats x = at("junction 1 1;road 9 1 0;score 0 0", "let 0", "let 1");
    due("none, RULE 0, RULE 1, none", row(x.force(-1), x.force(0), x.force(1), x.force(-1)), -1, -1, 0, 1);
    due("by the score", x.beat(), 1);
    x.force(0);
    due("by RULE 0", x.beat(), 0);
    x.force(0);
    due("again", x.count(4), 0);
    DutyBeats six = sixRules();
    due("RULE 5", row(six.force(5), six.count(4)), -1, 5);
    due("without a JUNCTION", new DutyBeats().force(-1), -1);
  }
  private static void noneSuch() {
    sentence(6, "-2, and nothing happens, if there is none such.");
    still("force(2) of two", Sentences::busy, x -> x.force(2), -2);
    still("force(-2)", Sentences::busy, x -> x.force(-2), -2);
    still("force(6) of six", TextBoundaries::sixRules, x -> x.force(6), -2);
    still("force(0) of none", Sentences::empty, x -> x.force(0), -2);
    still("force of the most", Sentences::busy, x -> x.force(Integer.MAX_VALUE), -2);
    still("force of the least", Sentences::busy, x -> x.force(Integer.MIN_VALUE), -2);
  }
}
