/** Boundaries of BEATS and ACTS, of what is and of IMAGES: promises 7 to 14 and 33 to 36. */
final class ActBoundaries extends Sentences {
  private ActBoundaries() { }

  /** Six ROADS of these PARTS, one comes on each in each BEAT, all are let in. */
  private static DutyBeats choir(int... parts) {
    StringBuilder text = new StringBuilder("junction 1 1");
    for (int part : parts) text.append(";road 0 1 ").append(part);
    for (int road = 0; road < parts.length; road++) text.append(";score 0 ").append(road);
    return at(text.toString());
  }
  /** 999 wait on ROAD 0. */
  private static DutyBeats full() {
    DutyBeats x = at("junction 1 9;road 30 1 0");
    comes(x, 0, 49);
    return x;
  }
  /** More calls than are promised to be answered lead here, but the sentence is in the document. */
  private static DutyBeats beat999() {
    DutyBeats x = forced("junction 7 1;road 0 1 0", "let 1 if hour=143");
    beats(x, 999);
    return x;
  }
  private static DutyBeats waved() {
    DutyBeats x = at(SMALL);
    x.come(1, 1);
    return x;
  }

  // ---- II. SOUND and BEATS

  private static void soundTable() {
    sentence(9, "0: 0, 1: -3, 2: -1, 3: 2, 4: 3, 5: 2, 6: -2, 7: 3, 8: 1, 9: 1, 10: -1, 11: -3; all together.");
    int[] table = {0, -3, -1, 2, 3, 2, -2, 3, 1, 1, -1, -3};
    for (int apart = 0; apart < 12; apart++) {
      due(apart + " apart", heardOnce(choir(apart, 0)), table[apart]);
      due(apart + " apart, the other way", heardOnce(choir(0, apart)), table[apart]);
    }
    due("no ROAD", heardOnce(choir()), 0);
    due("one ROAD", heardOnce(choir(7)), 0);
    due("0, 4, 7", heardOnce(choir(0, 4, 7)), 3 + 3 + 2);
    due("six ROADS", heardOnce(choir(0, 0, 0, 11, 11, 11)), 9 * -3);
  }
  private static int heardOnce(DutyBeats x) {
    x.beat();
    return x.heard();
  }
  private static void beatOfTheBarGoesRound() {
    sentence(9, "The beat of the BAR: the rest of BEAT by BAR.");
    DutyBeats x = at("junction 12 1;road 9 1 0;score 11 0;score 0 0");
    beats(x, 11);
    due("BEAT 11", x.count(6), 11);
    due("let in on beat 11", x.beat(), 1);
    due("BEAT 12", row(x.count(5), x.count(6)), 12, 0);
    due("let in on beat 0, not on 1", row(x.beat(), x.beat()), 1, 0);
    DutyBeats one = at("junction 1 1;road 9 1 0;score 0 0");
    due("BAR 1", row(one.count(6), one.beat(), one.count(6), one.beat(), one.count(6)), 0, 1, 0, 1, 0);
  }
  private static void oneMoreWaits() {
    sentence(9, "(1) On each ROAD one more waits, if the rest of BEAT by EVERY is 0 (999 at most).");
    DutyBeats x = at("junction 1 1;road 0 12 0;road 0 1 0");
    beats(x, 1);
    due("behind BEAT 0", row(x.road(0, 0), x.road(1, 0)), 1, 1);
    beats(x, 11);
    due("behind BEAT 11", row(x.road(0, 0), x.road(1, 0)), 1, 12);
    beats(x, 1);
    due("behind BEAT 12", row(x.road(0, 0), x.road(1, 0)), 2, 13);
    DutyBeats most = at("junction 1 1;road 18 1 0");
    comes(most, 0, 49);
    due("998", most.road(0, 0), 998);
    beats(most, 1);
    due("999", most.road(0, 0), 999);
    beats(most, 1);
    due("999 at most", most.road(0, 0), 999);
    most.score(0, 0);
    beats(most, 1);
    due("at most 999 ahead of who goes", most.road(0, 0), 998);
  }
  private static void roadsByNumbers() {
    sentence(9, "(2) ROADS by numbers, each by how all is then: one is LET IN, if it clashes with none that is by now");
    String three = "junction 1 1;road 1 1 0;road 1 1 0;road 1 1 0";
    String all = ";score 0 0;score 0 1;score 0 2";
    due("0 - 1 - 2", at(three + ";clash 0 1;clash 1 2" + all).beat(), 5);
    due("0 - 2", at(three + ";clash 0 2" + all).beat(), 3);
    due("all clash", at(three + ";clash 0 1;clash 1 2;clash 2 0" + all).beat(), 1);
    due("one that is not let in keeps none out", at(three + ";clash 0 1;clash 1 2;score 0 1;score 0 2").beat(), 2);
    letsIn(three, "let 2-let", 3);
    letsIn(three + ";clash 0 1", "let 2-let", 5);
  }
  private static void sumAbove0() {
    sentence(9, "the SUM of the RULE IN FORCE's first CLAUSE without a TEST, or whose TEST holds (0 without), is above 0");
    String one = "junction 1 1;road 9 1 0;score 0 0";
    letsIn(one, "let 0", 0);
    letsIn(one, "let 1", 1);
    letsIn(one, "let 0-1", 0);
    letsIn(one, "let 1 if 1=2", 0);
    letsIn(one, "let 0;let 1", 0);
    letsIn(one, "let 1 if 1=2;let 1 if 1=1;let 0", 1);
    letsIn(one, "let 0 if 1=1;let 1", 0);
    letsIn(one, "let 1 if 1=2;let 0 if 1=3", 0);
  }
  private static void withoutARule() {
    sentence(9, "without a RULE, if the score lets it in on this beat.");
    DutyBeats x = at("junction 2 1;road 0 12 0;road 9 1 0;score 1 0", "let 1");
    due("BEATS 0 to 2", row(x.beat(), x.beat(), x.beat()), 0, 1, 0);
  }
  private static void roomAtMost() {
    sentence(9, "(3) From each ROAD that is LET IN as many go as wait, ROOM at most.");
    DutyBeats x = at("junction 1 3;road 6 12 0;road 6 12 0;score 0 0");
    int[] wait = {4, 1, 0, 0};
    int[] went = {3, 6, 7, 7};
    for (int i = 0; i < 4; i++) {
      due("beat() " + i, x.beat(), 1);
      due("wait, went", row(x.road(0, 0), x.road(0, 4), x.road(1, 0), x.road(1, 4)), wait[i], went[i], 7, 0);
    }
  }
  private static void whatIsHeard() {
    sentence(9, "What is HEARD becomes as much more as the SOUND of those from which any went (9999 at most, -9999 at least).");
    DutyBeats x = at("junction 1 2;road 3 12 0;road 0 12 4;score 0 0;score 0 1");
    due("both go", row(x.beat(), x.heard()), 3, 3);
    due("from one none goes", row(x.beat(), x.heard()), 3, 3);
    DutyBeats idle = at("junction 1 2;road 9 12 0;road 0 12 7;road 9 12 4;score 0 1;score 0 2");
    idle.wave(0);
    beats(idle, 1);
    due("4 and 7", idle.heard(), 2);
    beats(idle, 1);
    due("from ROAD 2 alone", row(idle.heard(), idle.road(2, 4)), 2, 4);
    DutyBeats loud = choir(0, 4, 7, 0, 4, 7);
    beats(loud, 312);
    due("32 * 312", loud.heard(), 9984);
    due("ahead", loud.ahead(0, 1, 2), 9999);
    beats(loud, 1);
    due("9999", loud.heard(), 9999);
    beats(loud, 1);
    due("9999 at most", loud.heard(), 9999);
    DutyBeats low = choir(0, 0, 0, 1, 1, 1);
    beats(low, 370);
    due("-27 * 370", low.heard(), -9990);
    due("ahead", low.ahead(0, 1, 2), -9999);
    beats(low, 1);
    due("-9999", low.heard(), -9999);
    beats(low, 1);
    due("-9999 at least", low.heard(), -9999);
    low.tune(0, 4);
    low.tune(1, 4);
    low.tune(2, 4);
    beats(low, 1);
    due("and up again, 9 twos 3 apart", low.heard(), -9999 + 9 * 2);
  }
  private static void waitedAtMost() {
    sentence(9, "(4) WAITED of each ROAD becomes as much more as there wait on it yet (99999 at most).");
    DutyBeats x = at("junction 1 2;road 4 12 0;score 0 0");
    int[] waited = {3, 4, 4};
    for (int want : waited) {
      x.beat();
      due("WAITED", x.road(0, 5), want);
    }
    DutyBeats most = full();
    beats(most, 100);
    due("999 * 100", most.road(0, 5), 99900);
    beats(most, 1);
    due("99999", most.road(0, 5), 99999);
    beats(most, 1);
    due("99999 at most", row(most.road(0, 5), most.count(9)), 99999, 99999);
  }
  private static void beatByHand() {
    sentence(9, "BEAT is 1 more (999 at most by hand; BEATS that are asked go on beyond).");
    DutyBeats x = at("junction 7 1");
    due("BEAT 0, 1, 2", row(x.count(5), x.beat(), x.count(5), x.beat(), x.count(5)), 0, 0, 1, 0, 2);
    DutyBeats far = beat999();
    due("BEAT 999", far.count(5), 999);
    due("not 1000", row(far.beat(), far.count(5)), -1, 999);
    due("hour 143 begins in BEAT 1001", far.cadenza(0), 1001);
  }

  // ---- ACTS

  private static void comeAtMost() {
    sentence(10, "COME (on a ROAD 1 to 20 more wait, 999 at most)");
    DutyBeats x = at(SMALL);
    due("1", x.come(2, 1), 1);
    due("20", x.come(2, 20), 21);
    DutyBeats most = at("junction 1 1;road 29 1 0");
    comes(most, 0, 48);
    due("989 and 9", most.come(0, 9), 998);
    due("998 and 20", most.come(0, 20), 999);
    due("999 and 1", most.come(0, 1), 999);
    due("999 and 20", row(most.come(0, 20), most.road(0, 0)), 999, 999);
  }
  private static void waveRoomOrAsManyAsWait() {
    sentence(11, "WAVE (from a ROAD on which any wait ROOM go, or as many as wait; nothing sounds)");
    DutyBeats x = at("junction 1 3;road 7 12 0;road 2 12 4;road 0 12 7");
    due("ROOM of 7, of 4, the last", row(x.wave(0), x.wave(0), x.wave(0)), 3, 3, 1);
    due("as many as wait", x.wave(1), 2);
    due("nobody waits", row(x.wave(0), x.wave(1), x.wave(2)), -1, -1, -1);
    due("went", row(x.road(0, 4), x.road(1, 4), x.road(2, 4)), 7, 2, 0);
    due("HEARD, BEAT, WAITED", row(x.heard(), x.count(5), x.count(9)), 0, 0, 0);
    due("not let in", x.road(0, 6), 99);
  }
  private static void scoreAndNot() {
    sentence(12, "SCORE (on a beat of the BAR a ROAD is let in, if it was not, and is not, if it was)");
    DutyBeats x = at("junction 12 1;road 9 1 0;road 9 1 0;score 0 0");
    due("was", row(x.score(0, 0), x.scored(0)), 0, 0);
    due("was not", row(x.score(0, 0), x.scored(0)), 1, 1);
    due("the last beat, the last ROAD", row(x.score(11, 1), x.scored(11)), 1, 2);
    due("beside it", row(x.score(11, 0), x.scored(11), x.score(11, 1), x.scored(11)), 1, 3, 0, 1);
    due("who is let in", x.beat(), 1);
  }
  private static void tuneToAnother() {
    sentence(13, "TUNE (a ROAD has another PART, 0 to 11)");
    DutyBeats x = at(SMALL);
    due("11, 0, 11", row(x.tune(1, 11), x.tune(1, 0), x.tune(1, 11)), 4, 11, 0);
    due("PART", x.road(1, 2), 11);
    x.beat();
    due("0 and 11 sound", x.heard(), -3);
  }
  private static void theLast20() {
    sentence(14, "The last 20 can be UNDONE, the last first.");
    DutyBeats x = at("junction 1 1;road 0 1 0");
    for (int i = 1; i <= 20; i++) {
      x.come(0, 1);
      due("ACTS", x.count(11), i);
    }
    x.come(0, 20);
    due("20 of 21", row(x.count(11), x.road(0, 0)), 20, 40);
    due("the last first", row(x.undo(), x.road(0, 0)), 19, 20);
    for (int i = 18; i >= 0; i--) due("undo()", row(x.undo(), x.road(0, 0)), i, i + 1);
    due("the 21st", row(x.undo(), x.road(0, 0)), -1, 1);
    for (int i = 0; i < 45; i++) x.come(0, 2);
    due("45 more", row(x.count(11), x.road(0, 0)), 20, 91);
    for (int i = 0; i < 20; i++) x.undo();
    due("25 of them stay", row(x.undo(), x.road(0, 0)), -1, 51);
  }
  private static void everyActIsUndone() {
    sentence(14, "ACTS: a BEAT; COME");
    DutyBeats x = at(SMALL);
    x.beat();
    x.come(1, 7);
    x.wave(0);
    x.score(1, 1);
    x.tune(2, 3);
    due("TUNE", row(x.undo(), x.road(2, 2)), 4, 7);
    due("SCORE", row(x.undo(), x.scored(1)), 3, 4);
    due("WAVE", row(x.undo(), x.road(0, 0), x.road(0, 4)), 2, 3, 2);
    due("COME", row(x.undo(), x.road(1, 0)), 1, 2);
    due("a BEAT", row(x.undo(), x.count(5), x.count(7), x.count(8), x.count(9), x.heard(), x.road(0, 6)), 0, 0, 7, 0, 0, 0, 99);
    x.force(-1);
    x.seed(5);
    x.note(0, 0, 0);
    x.image(0);
    due("no ACTS", x.count(11), 0);
  }

  // ---- promises 7 to 14

  private static void sinceAtMost() {
    sentence(7, "BEATS since it was let in last (99 at most, or never)");
    DutyBeats x = at("junction 1 1;road 0 1 0;road 9 1 0;score 0 0");
    due("never", row(x.road(0, 6), x.road(1, 6)), 99, 99);
    x.beat();
    due("behind it", row(x.road(0, 6), x.road(1, 6)), 1, 99);
    x.beat();
    due("let in again", x.road(0, 6), 1);
    x.score(0, 0);
    beats(x, 97);
    due("98", x.road(0, 6), 98);
    beats(x, 1);
    due("99", x.road(0, 6), 99);
    beats(x, 1);
    due("99 at most", x.road(0, 6), 99);
    beats(x, 60);
    due("and so on", x.road(0, 6), 99);
    x.wave(0);
    due("a WAVE lets not in", x.road(0, 6), 99);
  }
  private static void noSuchRoad() {
    sentence(7, "NONE without these.");
    for (int what = 0; what <= 6; what++) {
      int asked = what;
      still("road(3, " + what + ")", Sentences::busy, x -> x.road(3, asked), -1);
      still("road(-1, " + what + ")", Sentences::busy, x -> x.road(-1, asked), -1);
      still("road(0, " + what + ") of no JUNCTION", Sentences::empty, x -> x.road(0, asked), -1);
    }
    still("what 7", Sentences::busy, x -> x.road(0, 7), -1);
    still("what -1", Sentences::busy, x -> x.road(0, -1), -1);
    still("ROAD 6 of six", () -> choir(0, 0, 0, 0, 0, 0), x -> x.road(6, 0), -1);
    still("the most", Sentences::busy, x -> x.road(Integer.MAX_VALUE, Integer.MAX_VALUE), -1);
    still("the least", Sentences::busy, x -> x.road(Integer.MIN_VALUE, Integer.MIN_VALUE), -1);
  }
  private static void noSuchBeat() {
    sentence(8, "ROADS that the score lets in on a beat of the BAR, as bits; NONE without it.");
    DutyBeats x = at("junction 12 1" + times(";road 0 1 0", 6) + ";score 11 0;score 11 5");
    due("beats 0, 10, 11", row(x.scored(0), x.scored(10), x.scored(11)), 0, 0, 33);
    still("beat 12", () -> at("junction 12 1"), y -> y.scored(12), -1);
    still("beat 3 of 3", Sentences::busy, y -> y.scored(3), -1);
    still("beat -1", Sentences::busy, y -> y.scored(-1), -1);
    still("no JUNCTION", Sentences::empty, y -> y.scored(0), -1);
  }
  private static void noBeat() {
    sentence(9, "NONE, and nothing happens, without a JUNCTION, or in BEAT 999.");
    still("no JUNCTION", Sentences::empty, DutyBeats::beat, -1);
    still("BEAT 999", ActBoundaries::beat999, DutyBeats::beat, -1);
    DutyBeats x = at("junction 1 1");
    due("no ROADS", row(x.beat(), x.count(5), x.count(11)), 0, 1, 1);
  }
  private static void noneComes() {
    sentence(10, "COME: how many wait then; NONE, and nothing happens, without these.");
    due("how many", at(SMALL).come(0, 20), 24);
    still("0 come", Sentences::busy, x -> x.come(0, 0), -1);
    still("-1 come", Sentences::busy, x -> x.come(0, -1), -1);
    still("21 come", Sentences::busy, x -> x.come(0, 21), -1);
    still("ROAD 3", Sentences::busy, x -> x.come(3, 1), -1);
    still("ROAD -1", Sentences::busy, x -> x.come(-1, 1), -1);
    still("no JUNCTION", Sentences::empty, x -> x.come(0, 1), -1);
    still("the most", Sentences::busy, x -> x.come(0, Integer.MAX_VALUE), -1);
    DutyBeats x = full();
    due("at 999 it is an ACT, too", row(x.count(11), x.come(0, 1), x.undo()), 20, 999, 19);
  }
  private static void noneIsWavedIn() {
    sentence(11, "WAVE: how many go; NONE, and nothing happens, without these.");
    still("nobody waits", () -> at(SMALL), x -> x.wave(2), -1);
    still("nobody waits behind an ACT", ActBoundaries::waved, x -> x.wave(2), -1);
    still("ROAD 3", Sentences::busy, x -> x.wave(3), -1);
    still("ROAD -1", Sentences::busy, x -> x.wave(-1), -1);
    still("no JUNCTION", Sentences::empty, x -> x.wave(0), -1);
    due("one waits", row(at("junction 1 9;road 1 1 0").wave(0)), 1);
  }
  private static void noScoreIsChanged() {
    sentence(12, "SCORE: 1 if it is let in then, else 0; NONE, and nothing happens, without these.");
    DutyBeats made = at(SMALL);
    due("off and on", row(made.score(2, 1), made.score(2, 1)), 0, 1);
    still("beat 3 of 3", Sentences::busy, x -> x.score(3, 0), -1);
    still("beat -1", Sentences::busy, x -> x.score(-1, 0), -1);
    still("ROAD 3", Sentences::busy, x -> x.score(0, 3), -1);
    still("ROAD -1", Sentences::busy, x -> x.score(0, -1), -1);
    still("no JUNCTION", Sentences::empty, x -> x.score(0, 0), -1);
    still("no ROADS", () -> at("junction 12 1"), x -> x.score(0, 0), -1);
    still("beat 12", () -> at("junction 12 1;road 0 1 0"), x -> x.score(12, 0), -1);
  }
  private static void noneIsTuned() {
    sentence(13, "TUNE: which PART it was; NONE, and nothing happens, without these (another one).");
    due("which it was", at(SMALL).tune(1, 5), 4);
    still("its own", Sentences::busy, x -> x.tune(1, 4), -1);
    still("its own since it was tuned", Sentences::busy, x -> x.tune(2, 9), -1);
    due("its own by the text", busy().tune(2, 7), 9);
    still("PART 12", Sentences::busy, x -> x.tune(1, 12), -1);
    still("PART -1", Sentences::busy, x -> x.tune(1, -1), -1);
    still("ROAD 3", Sentences::busy, x -> x.tune(3, 0), -1);
    still("ROAD -1", Sentences::busy, x -> x.tune(-1, 0), -1);
    still("no JUNCTION", Sentences::empty, x -> x.tune(0, 0), -1);
  }
  private static void noneCanBeUndone() {
    sentence(14, "The last ACT is UNDONE: how many more can be; NONE, and nothing happens: none can.");
    DutyBeats x = busy();
    due("six", row(x.undo(), x.undo(), x.undo(), x.undo(), x.undo(), x.undo(), x.undo()), 5, 4, 3, 2, 1, 0, -1);
    due("as told but for what is no ACT", row(x.count(5), x.count(7), x.count(4), x.count(10), x.count(12), x.count(13)), 0, 7, 1, 1, 77, 20);
    still("no JUNCTION", Sentences::empty, DutyBeats::undo, -1);
    still("no ACT yet", () -> at(SMALL), DutyBeats::undo, -1);
    still("all UNDONE", () -> {
      DutyBeats y = waved();
      y.undo();
      return y;
    }, DutyBeats::undo, -1);
    still("gone back", () -> {
      DutyBeats y = busy();
      y.back(0);
      return y;
    }, DutyBeats::undo, -1);
  }

  // ---- promises 33 to 36

  private static void countOfOthers() {
    sentence(33, "NONE for others.");
    for (int what : new int[] {-1, 14, 15, Integer.MIN_VALUE, Integer.MAX_VALUE}) {
      still("count(" + what + ")", Sentences::busy, x -> x.count(what), -1);
      still("count(" + what + ") of a new one", Sentences::empty, x -> x.count(what), -1);
    }
  }
  private static void counts() {
    sentence(33, "4: the RULE IN FORCE (NONE), 5: BEAT, 6: the beat of the BAR, 7: how many wait on all, 8: how many went from all,"
        + " 9: WAITED by all, 10: NOTES, 11: ACTS that can be UNDONE, 12: x, 13: bytes of the TAPE.");
    DutyBeats x = busy();
    int[] want = {3, 2, 3, 2, 1, 2, 2, 6 + 1 + 0, 7, 3 + 2 + 1 + 6 + 3 + 0, 1, 6, 77, 20};
    for (int what = 0; what < want.length; what++) due("count(" + what + ")", x.count(what), want[what]);
    x.force(-1);
    due("none", x.count(4), -1);
    DutyBeats most = full();
    beats(most, 102);
    due("999 and 99999", row(most.count(7), most.count(9)), 999, 99999);
  }
  private static void heardBelow0() {
    sentence(34, "What is HEARD (below 0, too).");
    DutyBeats x = choir(0, 1);
    due("BEATS 0 to 2", row(x.heard(), heardOnce(x), heardOnce(x)), 0, -3, -6);
    due("no JUNCTION", new DutyBeats().heard(), 0);
  }
  private static void images0To3() {
    sentence(35, "IMAGES 0 to 3");
    DutyBeats x = at(SMALL);
    for (int k = 0; k < 4; k++) {
      due("image(" + k + ")", x.image(k), k);
      x.beat();
    }
    for (int k = 3; k >= 0; k--) due("back(" + k + ")", row(x.back(k), x.count(5)), k, k);
  }
  private static void allButTapeAndRules() {
    sentence(35, "all but the TAPE and the RULES, as it is (the RULE IN FORCE, too)");
    DutyBeats x = at(SMALL, "let 1");
    x.force(0);
    x.seed(4);
    x.note(0, 0, 2);
    x.image(1);
    x.force(-1);
    x.seed(9);
    x.note(-1, 0, 0);
    tell(x, "let 2");
    x.rule();
    tell(x, "junction 1 1");
    x.junction();
    x.feed(1, 2, 3, 4, 5);
    x.back(1);
    due("IN FORCE, x, NOTES, ROADS", row(x.count(4), x.count(12), x.count(10), x.count(2)), 0, 4, 1, 3);
    due("RULES and TAPE are of now", row(x.count(3), x.count(13)), 2, 20);
    due("the text told then: by the score and by both RULES", x.ruled(0), 3);
    DutyBeats noted = at(SMALL, "let 1", "let road");
    noted.note(0, 0, 2);
    noted.note(1, 2, 1);
    noted.image(3);
    due("by the score alone", row(noted.ruled(0), noted.ruled(1)), 1, -1);
    noted.note(-1, 0, 0);
    noted.note(1, 1, 2);
    noted.note(0, 2, 1);
    due("by RULE 1 alone", row(noted.ruled(0), noted.ruled(1)), 1, 1);
    noted.image(2);
    noted.back(3);
    due("the NOTES of then", row(noted.count(10), noted.ruled(0), noted.ruled(1)), 2, 1, -1);
    noted.back(2);
    due("and of the other", row(noted.count(10), noted.ruled(0), noted.ruled(1)), 2, 1, 1);
    DutyBeats none = new DutyBeats();
    due("no JUNCTION", none.image(0), 0);
    tell(none, SMALL);
    none.junction();
    none.beat();
    due("back to none", row(none.back(0), none.count(0), none.count(2), none.beat(), none.ruled(0)), 0, 0, 0, -1, -3);
  }
  private static void theseStay() {
    sentence(36, "gone back to, it is as it was (these stay; nothing can be UNDONE then)");
    DutyBeats x = busy();
    beats(x, 2);
    due("back(0)", row(x.back(0), x.count(11), x.undo()), 2, 0, -1);
    due("as it was", row(x.count(7), x.count(8), x.count(9), x.heard(), x.scored(1), x.road(2, 2)), 7, 7, 15, 3, 5, 9);
    x.beat();
    x.tune(0, 11);
    due("again", row(x.back(0), x.road(0, 2)), 2, 0);
    due("another", row(x.back(2), x.count(5), x.count(4), x.road(2, 2)), 0, 0, -1, 7);
    due("the first again", row(x.back(0), x.count(5)), 2, 2);
    x.beat();
    x.image(0);
    x.beat();
    due("made anew", x.back(0), 3);
  }
  private static void noImage() {
    sentence(35, "An IMAGE is made: BEAT; NONE without it.");
    still("image(4)", Sentences::busy, x -> x.image(4), -1);
    still("image(-1)", Sentences::busy, x -> x.image(-1), -1);
    still("image of the most", Sentences::busy, x -> x.image(Integer.MAX_VALUE), -1);
    DutyBeats x = busy();
    due("ACTS stay", row(x.image(3), x.count(11), x.undo()), 2, 6, 5);
  }
  private static void noWayBack() {
    sentence(36, "NONE, and nothing happens, if it was never made, or without it.");
    still("back(1), never made", Sentences::busy, x -> x.back(1), -1);
    still("back(3), never made", Sentences::busy, x -> x.back(3), -1);
    still("back(4)", Sentences::busy, x -> x.back(4), -1);
    still("back(-1)", Sentences::busy, x -> x.back(-1), -1);
    still("back(0) of a new one", Sentences::empty, x -> x.back(0), -1);
  }
}
