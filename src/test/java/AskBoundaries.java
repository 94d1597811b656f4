import java.util.List;
import java.util.function.ToIntFunction;

/** Boundaries of what is asked, of NOTES and of DRAWS: promises 15 to 32. */
final class AskBoundaries extends Sentences {
  /** On its one ROAD one more waits behind each BEAT. */
  private static final String SLOW = "junction 1 1;road 0 1 0";
  /** From its one ROAD all go in each BEAT; hour is BEAT. */
  private static final String OPEN = "junction 1 9;road 0 1 0;score 0 0";
  private static final String TWO_OPEN = "junction 1 9;road 0 2 0;road 0 2 0;score 0 0;score 0 1";

  private static final List<ToIntFunction<DutyBeats>> ASKED = List.of(x -> x.ahead(0, 100, 0), x -> x.clear(0), x -> x.chord(1), x -> x.beats(2),
      x -> x.bestScore(30, 0), x -> x.row(3, 0), x -> x.leastRoom(60), x -> x.shut(60, 1), x -> x.longest(100, 0), x -> x.cadenza(1),
      x -> x.rests(0, 2, 20, 1), x -> x.ring(0), x -> x.pence(9999, 1), x -> x.ruled(0), x -> x.look(60, 1), x -> x.mornings(10, 60, 50, 0));

  private AskBoundaries() { }

  private static DutyBeats small() { return at(SMALL); }
  private static DutyBeats tenNotes() {
    DutyBeats x = at(SMALL);
    for (int i = 0; i < 10; i++) x.note(i, 0, 0);
    return x;
  }
  /** 10, 7 and 1 WAITED. */
  private static DutyBeats threeBeats() {
    DutyBeats x = at(SMALL);
    beats(x, 3);
    return x;
  }

  // ---- nothing changes

  private static void nothingChanges() {
    sentence(15, "By what is asked nothing changes");
    for (int i = 0; i < ASKED.size(); i++) unmoved("ask " + i, ASKED.get(i));
  }
  private static void unmoved(String what, ToIntFunction<DutyBeats> call) {
    still(what, Sentences::busy, call, call.applyAsInt(busy()));
  }
  private static void noAskChangesAnother() {
    sentence(15, "By what is asked nothing changes; BEATS go on by the RULE IN FORCE.");
    DutyBeats x = busy();
    for (int i = 0; i < ASKED.size(); i++) {
      for (int other = 0; other < ASKED.size(); other++) {
        ASKED.get(other).applyAsInt(x);
        due("ask " + i + " behind ask " + other, ASKED.get(i).applyAsInt(x), ASKED.get(i).applyAsInt(busy()));
        if (other % 6 == 5) x = busy();
      }
    }
    DutyBeats forced = at(SLOW, "let 1");
    due("by the score", forced.ahead(0, 9, 1), 0);
    forced.force(0);
    due("by the RULE", forced.ahead(0, 9, 1), 9);
  }
  private static void sixRoadsAsked() {
    sentence(15, "ROADS 0 to 5");
    // on ROAD r r wait, and one comes in BEAT 0; nobody is let in
    String six = "junction 12 9;road 0 12 0;road 1 12 0;road 2 12 0;road 3 12 0;road 4 12 0;road 5 12 0";
    DutyBeats x = at(six);
    due("ahead", row(x.ahead(5, 12, 0), x.ahead(6, 12, 0)), 6, -10000);
    due("chord", chord(six), 0, 0);
    due("bestScore: ROAD 5 on beat 0", bestScore(x, 12), 12 * 15, 0, 5);
    due("row: all", rowOf(x, 3), 0, 0, 63, 0, 0);
    due("row: all again", rowOf(x, 2), 0, 0, 63, 0, -2);
    due("leastRoom", x.leastRoom(60), 1);
    due("shut", row(x.shut(1, 0), x.shut(1, 1)), 5, 15);
    due("longest", longest(x, 1), 6, 0, 5);
    due("cadenza and clear", row(x.cadenza(5), x.clear(5)), -2, -2);
    due("rests: none lets in, one or more come on each", rests(x, 5, 4, 1), 25, 1, 1);
    due("ring: from BEAT 1 on none comes until BEAT 12", ring(at(six.replace("junction 12", "junction 1"))), 1, 1);
    due("look", look(x, 0), 0, 1);
    beats(x, 1);
    for (int road = 0; road < 6; road++) due("pence of " + road, x.pence(21, road), road + 1);
    DutyBeats last = at(six, "let 1 if road=5");
    due("look at ROAD 5", look(last, 0), 5, 1);
  }

  // ---- promises 15 to 18

  private static void aheadAHundred() {
    sentence(15, "AHEAD n BEATS (0 to 100)");
    DutyBeats x = at(SLOW);
    due("0, 1, 99 and 100", row(x.ahead(0, 0, 0), x.ahead(0, 1, 0), x.ahead(0, 99, 0), x.ahead(0, 100, 0)), 0, 1, 99, 100);
    due("-1 and 101", row(x.ahead(0, -1, 0), x.ahead(0, 101, 0)), -10000, -10000);
    due("what of -1 and 101", row(x.ahead(0, -1, 2), x.ahead(0, 101, 2)), -10000, -10000);
    comes(x, 0, 49);
    due("980 and 100", x.ahead(0, 100, 0), 999);
  }
  private static void aheadHeard() {
    sentence(15, "2: HEARD (road is not asked; below 0, too)");
    DutyBeats x = at("junction 1 1;road 0 1 0;road 0 1 1;score 0 0;score 0 1");
    for (int road : new int[] {0, 1, 2, -1, Integer.MAX_VALUE, Integer.MIN_VALUE}) due("road " + road, x.ahead(road, 100, 2), -300);
    due("no ROADS", at("junction 1 1").ahead(0, 5, 2), 0);
  }
  private static void aheadOfNothing() {
    sentence(15, "-10000 without these, or a JUNCTION.");
    still("ROAD 3", Sentences::busy, x -> x.ahead(3, 1, 0), -10000);
    still("ROAD 3, went", Sentences::busy, x -> x.ahead(3, 1, 1), -10000);
    still("ROAD -1", Sentences::busy, x -> x.ahead(-1, 1, 1), -10000);
    still("what 3", Sentences::busy, x -> x.ahead(0, 1, 3), -10000);
    still("what -1", Sentences::busy, x -> x.ahead(0, 1, -1), -10000);
    still("n -1", Sentences::busy, x -> x.ahead(0, -1, 0), -10000);
    still("n 101", Sentences::busy, x -> x.ahead(0, 101, 1), -10000);
    for (int what = 0; what <= 2; what++) due("no JUNCTION, what " + what, new DutyBeats().ahead(0, 0, what), -10000);
  }
  private static void clearIn200() {
    sentence(16, "CLEAR of a ROAD: the first BEAT, this one the first, of 200, behind which nobody waits on it.");
    DutyBeats x = at("junction 1 1;road 0 12 0;score 0 0");
    due("this one", x.clear(0), 0);
    beats(x, 5);
    due("this one, BEAT 5", x.clear(0), 5);
    due("it comes and stays", at(SLOW).clear(0), -2);
    DutyBeats far = at("junction 1 1;road 3 12 0;score 0 0");
    comes(far, 0, 9);
    due("183 wait, 17 come: behind BEAT 199", far.clear(0), 199);
    far.come(0, 1);
    due("184 wait", far.clear(0), -2);
    beats(far, 1);
    due("this BEAT is 1: 200 of them again", far.clear(0), 200);
  }
  private static void neverClear() {
    sentence(16, "-2: behind none of these");
    due("never let in", at(SLOW).clear(0), -2);
    due("more come than go", at("junction 2 1;road 0 1 0;road 9 12 0;score 0 0").clear(0), 0);
    due("more come than go from the next BEAT on", at("junction 2 1;road 1 1 0;score 0 0").clear(0), -2);
  }
  private static void clearOfNoRoad() {
    sentence(16, "NONE without that ROAD.");
    still("ROAD 3", Sentences::busy, x -> x.clear(3), -1);
    still("ROAD -1", Sentences::busy, x -> x.clear(-1), -1);
    still("no JUNCTION", Sentences::empty, x -> x.clear(0), -1);
    still("no ROADS", () -> at("junction 1 1"), x -> x.clear(0), -1);
  }
  private static void chordOfNobody() {
    sentence(17, "CHORD: ROADS, no two of which clash, nobody too, of the most SOUND: how much");
    due("no ROADS", chord("junction 1 1"), 0, 0);
    due("one ROAD", chord("junction 1 1;road 0 1 5"), 0, 0);
    due("1 apart", chord("junction 1 1;road 0 1 0;road 0 1 1"), 0, 0);
    due("none apart", chord("junction 1 1;road 0 1 3;road 0 1 3"), 0, 0);
    due("8 apart", chord("junction 1 1;road 0 1 0;road 0 1 8"), 1, 3);
    due("8 apart, but they clash", chord("junction 1 1;road 0 1 0;road 0 1 8;clash 0 1"), 0, 0);
    due("six", chord("junction 1 1;road 0 1 0;road 0 1 4;road 0 1 7;road 0 1 0;road 0 1 4;road 0 1 7"), 32, 63);
  }
  private static int[] chord(String text) {
    DutyBeats x = at(text);
    return row(x.chord(0), x.chord(1));
  }
  private static void chordOfTheFewest() {
    sentence(17, "the set, of several the fewest ROADS");
    // 0 8 0 sound 1 + 1 + 0; 0 and 3 sound 2, and are more as bits
    due("two, not three", chord("junction 1 1;road 0 1 0;road 0 1 8;road 0 1 0;road 0 1 3;clash 3 1;clash 3 2"), 2, 9);
    // 0 4: 3; one more at 9: 1 - 5 apart 2: more; at 10: -1 and -2
    due("as many as sound more", chord("junction 1 1;road 0 1 0;road 0 1 4;road 0 1 9"), 6, 7);
    // 0 3: 2; 0 3 1 would be 2 - 3 - 1; 0 3 and another 0 clashing with 3: 2 + 0
    due("not one that adds nothing", chord("junction 1 1;road 0 1 0;road 0 1 3;road 0 1 0;clash 1 2"), 2, 3);
  }
  private static void chordLeastAsBits() {
    sentence(17, "of these the least as bits");
    due("0 and 1, not 1 and 2", chord("junction 1 1;road 0 1 4;road 0 1 0;road 0 1 4;clash 0 2"), 3, 3);
    due("1 and 2, not 0 and 3", chord("junction 1 1;road 0 1 0;road 0 1 0;road 0 1 4;road 0 1 4;clash 0 1;clash 2 3;clash 0 2"), 3, 6);
  }
  private static void chordForOthers() {
    sentence(17, "NONE for others, or without a JUNCTION.");
    still("chord(2)", Sentences::busy, x -> x.chord(2), -1);
    still("chord(-1)", Sentences::busy, x -> x.chord(-1), -1);
    still("no JUNCTION", Sentences::empty, x -> x.chord(0), -1);
    still("no JUNCTION", Sentences::empty, x -> x.chord(1), -1);
  }
  private static void fewestBeats() {
    sentence(18, "BEATS of a score: the fewest, so that each ROAD has one, and no two that clash have the same: how many");
    due("no ROADS", at("junction 1 1").beats(-1), 0);
    due("one ROAD", at("junction 1 1;road 0 1 0").beats(-1), 1);
    due("six, none clash", at("junction 1 1" + times(";road 0 1 0", 6)).beats(-1), 1);
    StringBuilder all = new StringBuilder("junction 1 1" + times(";road 0 1 0", 6));
    for (int a = 0; a < 6; a++) for (int b = 0; b < a; b++) all.append(";clash ").append(a).append(' ').append(b);
    DutyBeats six = at(all.toString());
    due("six, all clash, in a BAR of 1", six.beats(-1), 6);
    for (int road = 0; road < 6; road++) due("beat of " + road, six.beats(road), road);
    due("a ring of five", at("junction 1 1" + times(";road 0 1 0", 5) + ";clash 0 1;clash 1 2;clash 2 3;clash 3 4;clash 4 0").beats(-1), 3);
  }
  private static void firstSuchBeats() {
    sentence(18, "the beat of a ROAD in the first such (ROAD 0 first, least numbers first)");
    // greedy by numbers would need three
    DutyBeats crown = at("junction 1 1" + times(";road 0 1 0", 6) + ";clash 0 3;clash 0 5;clash 2 1;clash 2 5;clash 4 1;clash 4 3");
    for (int road = 0; road < 6; road++) due("beat of " + road, row(crown.beats(-1), crown.beats(road)), 2, road % 2);
    DutyBeats turn = at("junction 1 1" + times(";road 0 1 0", 4) + ";clash 0 2;clash 2 3;clash 3 1");
    due("0 - 2 - 3 - 1", row(turn.beats(0), turn.beats(1), turn.beats(2), turn.beats(3)), 0, 1, 1, 0);
  }
  private static void beatOfNoRoad() {
    sentence(18, "BEATS of a score what NONE: how many, 0 to 5: the beat of that ROAD (-2: there is none such).");
    DutyBeats x = small();
    due("how many, ROADS 0 to 5", row(x.beats(-1), x.beats(0), x.beats(1), x.beats(2), x.beats(3), x.beats(4), x.beats(5)), 2, 0, 0, 1, -2, -2, -2);
    due("no ROADS", at("junction 1 1").beats(0), -2);
  }
  private static void beatsForOthers() {
    sentence(18, "-3 for others, or without a JUNCTION.");
    still("beats(6)", Sentences::busy, x -> x.beats(6), -3);
    still("beats(-2)", Sentences::busy, x -> x.beats(-2), -3);
    still("no JUNCTION, how many", Sentences::empty, x -> x.beats(-1), -3);
    still("no JUNCTION, ROAD 0", Sentences::empty, x -> x.beats(0), -3);
  }

  // ---- promises 19 to 21

  private static void bestScoreIn30() {
    sentence(19, "BEST SCORE for n BEATS (1 to 30)");
    DutyBeats x = forced(SLOW, "let 0");
    due("1 BEAT", x.bestScore(1, 0), 1);
    due("30 BEATS", x.bestScore(30, 0), 465);
    due("0 and 31", row(x.bestScore(0, 0), x.bestScore(31, 0)), -1, -1);
    due("changed", row(at(SLOW).bestScore(30, 0), at(SLOW).bestScore(30, 1), at(SLOW).bestScore(30, 2)), 0, 0, 0);
  }
  private static void bestScoreOfSeveral() {
    sentence(19, "a beat of the BAR and a ROAD that had best be changed in the score (let in, or no more), or none,"
        + " so that least has been WAITED by all then; of several none, then the least beat, then the least ROAD");
    due("none", bestScore(at(OPEN), 5), 0, -2, -2);
    due("no ROADS", bestScore(at("junction 12 1"), 30), 0, -2, -2);
    // ROAD 0: 6 wait, on beat 0 two go; ROAD 1: 1 waits. 4 + 1 and 4 + 1; ROAD 1 on beat 0: 4 and 4; ROAD 0 on beat 1: 5 and 3
    due("the least beat", bestScore(at("junction 2 2;road 5 12 0;road 0 12 0;score 0 0"), 2), 8, 0, 1);
    due("the least ROAD", bestScore(at("junction 1 1;road 2 12 0;road 2 12 0;road 2 12 0;score 0 0"), 1), 7, 0, 1);
    // ROAD 0 keeps ROAD 1 out: 6 go, not 1
    due("no more", bestScore(at("junction 1 9;road 0 12 0;road 5 1 0;clash 0 1;score 0 0;score 0 1"), 1), 1, 0, 0);
    DutyBeats later = at("junction 2 1;road 0 1 0");
    later.beat();
    due("what was WAITED counts: 1, and 1 behind BEAT 1", bestScore(later, 1), 1 + 1, 1, 0);
  }
  private static int[] bestScore(DutyBeats x, int n) { return row(x.bestScore(n, 0), x.bestScore(n, 1), x.bestScore(n, 2)); }
  private static void bestScoreNone() {
    sentence(19, "1: which beat, 2: which ROAD (both -2: none).");
    due("none", bestScore(forced(SMALL, "let 1"), 1), 6, -2, -2);
  }
  private static void bestScoreWithout() {
    sentence(19, "NONE without these, or a JUNCTION.");
    still("n 0", Sentences::busy, x -> x.bestScore(0, 0), -1);
    still("n 31", Sentences::busy, x -> x.bestScore(31, 0), -1);
    still("n -1", Sentences::busy, x -> x.bestScore(-1, 2), -1);
    still("what 3", Sentences::busy, x -> x.bestScore(1, 3), -1);
    still("what -1", Sentences::busy, x -> x.bestScore(1, -1), -1);
    for (int what = 0; what <= 2; what++) due("no JUNCTION, what " + what, new DutyBeats().bestScore(1, what), -1);
  }
  private static void rowOfThree() {
    sentence(20, "ROW for n BEATS (1 to 3)");
    due("1", rowOf(at(OPEN), 1), 0, 0, 1, -2, -2);
    due("2", rowOf(at(OPEN), 2), 0, 0, 1, 1, -2);
    due("3", rowOf(at(OPEN), 3), 0, 0, 1, 1, 1);
    due("0 and 4", row(at(OPEN).row(0, 0), at(OPEN).row(4, 0)), -10000, -10000);
  }
  private static int[] rowOf(DutyBeats x, int n) { return row(x.row(n, 0), x.row(n, 1), x.row(n, 2), x.row(n, 3), x.row(n, 4)); }
  private static void rowOfSeveral() {
    sentence(20, "those by which least has been WAITED by all then; of these the one of most HEARD; of these the first (sets as bits, least first)");
    String three = "junction 1 1;road 0 12 0;road 0 12 1;road 0 12 4;clash 1 2";
    due("most HEARD: 0 and 2", rowOf(at(three), 1), 1, 3, 5, -2, -2);
    due("then who is left", rowOf(at(three), 2), 1, 3, 5, 2, -2);
    due("the first: 0 and 1", rowOf(at("junction 1 1;road 0 12 0;road 0 12 4;road 0 12 4;clash 1 2"), 1), 1, 3, 3, -2, -2);
    due("less WAITED, though it sounds worse", rowOf(at("junction 1 1;road 0 12 0;road 0 12 1"), 1), 0, -3, 3, -2, -2);
    due("one behind the other", rowOf(at("junction 1 1;road 0 12 0;road 0 12 0;clash 0 1"), 3), 1, 0, 1, 2, 0);
    due("no ROADS", rowOf(at("junction 1 1"), 3), 0, 0, 0, 0, 0);
    DutyBeats silent = at("junction 1 9;road 0 12 0;road 0 12 4;score 0 0;score 0 1");
    silent.beat();
    due("nobody waits", rowOf(silent, 3), 0, 3, 0, 0, 0);
    due("in place of the RULE", rowOf(forced(OPEN, "let 0"), 1), 0, 0, 1, -2, -2);
    DutyBeats full = at("junction 1 9;road 30 1 0");
    comes(full, 0, 49);
    beats(full, 102);
    due("99999 WAITED by any row", rowOf(full, 3), 99999, 0, 0, 0, 0);
    due("and by any change", bestScore(full, 30), 99999, -2, -2);
    // nobody waits on ROAD 0 or comes; it would sound with ROAD 1, but none goes from it
    DutyBeats idle = at("junction 1 9;road 0 12 0;road 5 12 4;score 0 0");
    due("both go now", rowOf(idle, 1), 0, 3, 3, -2, -2);
    idle.beat();
    due("ROAD 1 alone", rowOf(idle, 1), 6, 0, 2, -2, -2);
  }
  private static void rowHeardBelow0() {
    sentence(20, "1: HEARD (below 0, too)");
    DutyBeats x = at("junction 1 1;road 9 1 0;road 9 1 1;score 0 0;score 0 1");
    x.beat();
    due("-3 and three times -3", x.row(3, 1), -12);
  }
  private static void noSuchBeatInTheRow() {
    sentence(20, "2 to 4: the set on that BEAT (-2: there is no such BEAT).");
    DutyBeats x = at(OPEN);
    due("of 1", row(x.row(1, 2), x.row(1, 3), x.row(1, 4)), 1, -2, -2);
    due("of 2", row(x.row(2, 2), x.row(2, 3), x.row(2, 4)), 1, 1, -2);
    due("of 3", x.row(3, 4), 1);
  }
  private static void rowWithout() {
    sentence(20, "-10000 without these, or a JUNCTION.");
    still("n 0", Sentences::busy, x -> x.row(0, 0), -10000);
    still("n 4", Sentences::busy, x -> x.row(4, 0), -10000);
    still("n 0, what 4", Sentences::busy, x -> x.row(0, 4), -10000);
    still("what 5", Sentences::busy, x -> x.row(3, 5), -10000);
    still("what -1", Sentences::busy, x -> x.row(3, -1), -10000);
    for (int what = 0; what <= 4; what++) due("no JUNCTION, what " + what, new DutyBeats().row(1, what), -10000);
  }
  private static void leastRoomIn60() {
    sentence(21, "LEAST ROOM for n BEATS (1 to 60)");
    // from BEAT 39 on nobody is let in: 21 wait behind BEAT 59
    DutyBeats x = forced(SLOW, "let 1 if hour<39");
    due("1, 59 and 60", row(x.leastRoom(1), x.leastRoom(59), x.leastRoom(60)), 1, 1, -2);
    due("0 and 61", row(x.leastRoom(0), x.leastRoom(61)), -1, -1);
  }
  private static void leastRoomOf1To9() {
    sentence(21, "the least, 1 to 9, in place of what it is");
    int[] due = {1, 2, 3, 4, 5, 6, 7, 8, 9, -2};
    for (int i = 0; i < 10; i++) due("BEAT 0, " + (20 + i) + " and one", at("junction 1 5;road " + (20 + i) + " 12 0;score 0 0").leastRoom(1), due[i]);
    due("ROOM stays", at("junction 1 5;road 20 12 0").count(1), 5);
    due("no ROADS", at("junction 1 5").leastRoom(60), 1);
  }
  private static void leastRoomBy20() {
    sentence(21, "behind none of these more than 20 wait on any ROAD");
    due("20 wait", at("junction 1 1;road 19 12 0").leastRoom(12), 1);
    due("21 wait", at("junction 1 1;road 20 12 0").leastRoom(1), -2);
    due("on the last ROAD", at("junction 1 1;road 0 12 0;road 20 12 0").leastRoom(1), -2);
    due("behind the 20th", at(SLOW).leastRoom(20), 1);
    due("behind the 21st", at(SLOW).leastRoom(21), -2);
    // 30 wait, 9 go; then 21 - 9: what was behind the first counts
    due("behind any of these", at("junction 1 9;road 29 12 0;score 0 0").leastRoom(5), -2);
  }
  private static void leastRoomByNone() {
    sentence(21, "-2: by none; NONE without these, or a JUNCTION.");
    due("by none", at("junction 1 9;road 30 1 0;score 0 0").leastRoom(1), -2);
    still("n 0", Sentences::busy, x -> x.leastRoom(0), -1);
    still("n 61", Sentences::busy, x -> x.leastRoom(61), -1);
    still("n -1", Sentences::busy, x -> x.leastRoom(-1), -1);
    still("no JUNCTION", Sentences::empty, x -> x.leastRoom(1), -1);
  }

  // ---- promises 22 to 24

  private static void shutFor60() {
    sentence(22, "SHUT for n BEATS (1 to 60)");
    // on each one comes in BEATS 0, 12, 24, 36, 48: 12 * (1 + 2 + 3 + 4 + 5)
    DutyBeats x = at("junction 1 1;road 0 12 0;road 0 12 0");
    due("1", row(x.shut(1, 0), x.shut(1, 1)), 0, 1);
    due("60", row(x.shut(60, 0), x.shut(60, 1)), 0, 180);
    due("0 and 61", row(x.shut(0, 0), x.shut(61, 0), x.shut(0, 1), x.shut(61, 1)), -2, -2, -2, -2);
  }
  private static void nobodyComesAnyMore() {
    sentence(22, "the ROAD on which had best nobody come any more, and nobody wait now, or none");
    // from ROAD 1 all go as long as nobody waits on ROAD 0, on which else 31 wait, and one more comes each BEAT
    DutyBeats x = forced("junction 1 9;road 30 1 0;road 3 1 0", "let 0 if road=0;let 1 if all=wait");
    due("ROAD 0", row(x.shut(5, 0), x.shut(5, 1)), 0, 0);
    due("none", row(at(OPEN).shut(5, 0), at(OPEN).shut(5, 1)), -1, 0);
  }
  private static void shutOfAllOthers() {
    sentence(22, "so that on all other ROADS (on all, if none is) least has been WAITED by then, all together");
    // 3 and 3 wait, both go by 2 as long as more than 3 wait on all: 1 + 1; alone none would go
    DutyBeats x = forced("junction 1 2;road 2 12 0;road 2 12 0", "let 1 if all>3");
    due("none is", row(x.shut(1, 0), x.shut(1, 1)), -1, 2);
    DutyBeats worst = at("junction 1 1;road 3 12 0;road 9 12 0;road 5 12 0");
    due("who waits most", row(worst.shut(1, 0), worst.shut(1, 1)), 1, 4 + 6);
    beats(worst, 1);
    due("what was WAITED on others counts", row(worst.shut(2, 0), worst.shut(2, 1)), 1, 3 * 4 + 3 * 6);
    due("one ROAD", row(at(SLOW).shut(60, 0), at(SLOW).shut(60, 1)), 0, 0);
    // shut or not, ROAD 0 is let in by the score and keeps ROAD 1 out
    DutyBeats kept = at("junction 1 9;road 9 12 0;road 4 12 0;clash 0 1;score 0 0;score 0 1");
    due("it is let in yet", row(kept.shut(1, 0), kept.shut(1, 1)), 1, 1);
  }
  private static void shutOfSeveral() {
    sentence(22, "of several none, then the least; how much");
    due("nobody WAITED", row(at(OPEN).shut(60, 0), at(OPEN).shut(60, 1)), -1, 0);
    due("no ROADS", row(at("junction 1 1").shut(60, 0), at("junction 1 1").shut(60, 1)), -1, 0);
    DutyBeats x = at("junction 1 9;road 0 12 0;road 5 12 0;road 5 12 0;score 0 0");
    due("the least", row(x.shut(1, 0), x.shut(1, 1)), 1, 6);
  }
  private static void shutNone() {
    sentence(22, "SHUT what 0: which (NONE: none), 1: how much.");
    due("none", row(at(OPEN).shut(1, 0), at(OPEN).shut(1, 1)), -1, 0);
    due("ROAD 0", row(at(SLOW).shut(1, 0), at(SLOW).shut(1, 1)), 0, 0);
  }
  private static void shutWithout() {
    sentence(22, "-2 without these, or a JUNCTION.");
    still("n 0", Sentences::busy, x -> x.shut(0, 0), -2);
    still("n 61", Sentences::busy, x -> x.shut(61, 1), -2);
    still("what 2", Sentences::busy, x -> x.shut(1, 2), -2);
    still("what -1", Sentences::busy, x -> x.shut(1, -1), -2);
    still("no JUNCTION", Sentences::empty, x -> x.shut(1, 0), -2);
    still("no JUNCTION, how much", Sentences::empty, x -> x.shut(1, 1), -2);
  }
  private static int[] longest(DutyBeats x, int n) { return row(x.longest(n, 0), x.longest(n, 1), x.longest(n, 2)); }
  private static void longestIn100() {
    sentence(23, "LONGEST in n BEATS (1 to 100)");
    due("1", longest(at(SLOW), 1), 1, 0, 0);
    due("100", longest(at(SLOW), 100), 100, 99, 0);
    due("0 and 101", row(at(SLOW).longest(0, 0), at(SLOW).longest(101, 0)), -1, -1);
  }
  private static void longestOfSeveral() {
    sentence(23, "the most that wait on any ROAD behind any of these; the BEAT of it, the first; on which ROAD, the least.");
    due("the first BEAT", longest(at("junction 1 1;road 3 12 0"), 12), 4, 0, 0);
    due("the 13th", longest(at("junction 1 1;road 3 12 0"), 13), 5, 12, 0);
    due("the least ROAD", longest(at("junction 1 1;road 3 12 0;road 5 12 0;road 5 12 0"), 1), 6, 0, 1);
    due("the first BEAT ahead of the least ROAD", longest(at("junction 2 1;road 4 2 0;road 5 12 0;score 0 1;score 1 1"), 3), 6, 2, 0);
    due("nobody waits", longest(at(OPEN), 100), 0, 0, 0);
    DutyBeats later = at(OPEN);
    beats(later, 7);
    due("nobody waits, from BEAT 7 on", longest(later, 100), 0, 7, 0);
    due("who waits ahead of it does not count", longest(at("junction 1 9;road 8 12 0;score 0 0"), 5), 0, 0, 0);
  }
  private static void longestOfNoRoads() {
    sentence(23, "1: the BEAT, 2: the ROAD (both -2: there are no ROADS).");
    due("no ROADS", longest(at("junction 1 1"), 5), 0, -2, -2);
  }
  private static void longestWithout() {
    sentence(23, "NONE without these, or a JUNCTION.");
    still("n 0", Sentences::busy, x -> x.longest(0, 0), -1);
    still("n 101", Sentences::busy, x -> x.longest(101, 0), -1);
    still("what 3", Sentences::busy, x -> x.longest(1, 3), -1);
    still("what -1", Sentences::busy, x -> x.longest(1, -1), -1);
    still("no ROADS, n 0", () -> at("junction 1 1"), x -> x.longest(0, 1), -1);
    still("no ROADS, what 3", () -> at("junction 1 1"), x -> x.longest(1, 3), -1);
    for (int what = 0; what <= 2; what++) due("no JUNCTION, what " + what, new DutyBeats().longest(1, what), -1);
  }
  private static void cadenzaIn200() {
    sentence(24, "CADENZA of a ROAD: the first BEAT, this one the first, of 200, in which any go from it, and from no other.");
    due("this one", at(OPEN).cadenza(0), 0);
    due("the 200th", forced(SLOW, "let 1 if hour=199").cadenza(0), 199);
    due("the 201st", forced(SLOW, "let 1 if hour=200").cadenza(0), -2);
    DutyBeats later = forced(SLOW, "let 1 if hour=200");
    later.beat();
    due("the 200th from BEAT 1 on", later.cadenza(0), 200);
    DutyBeats both = at("junction 1 9;road 0 5 0;road 0 3 0;score 0 0;score 0 1");
    due("both are let in, but from one none goes", row(both.cadenza(0), both.cadenza(1)), 5, 3);
    due("always together", at("junction 1 1;road 0 1 0;road 0 1 0;score 0 0;score 0 1").cadenza(0), -2);
  }
  private static void noCadenza() {
    sentence(24, "-2: in none of these; NONE without that ROAD.");
    due("never let in", at(SLOW).cadenza(0), -2);
    still("ROAD 3", Sentences::busy, x -> x.cadenza(3), -1);
    still("ROAD -1", Sentences::busy, x -> x.cadenza(-1), -1);
    still("no JUNCTION", Sentences::empty, x -> x.cadenza(0), -1);
  }

  // ---- promises 25 to 27

  private static int[] rests(DutyBeats x, int one, int other, int n) {
    return row(x.rests(one, other, n, 0), x.rests(one, other, n, 1), x.rests(one, other, n, 2));
  }
  private static void restsFor20() {
    sentence(25, "RESTS of two ROADS for n BEATS (1 to 20)");
    due("1", rests(at(TWO_OPEN), 0, 1, 1), 25, 1, 1);
    due("20", rests(at(TWO_OPEN), 0, 1, 20), 1, 1, 1);
    // only in BEAT 19 any go: EVERY 1: 9 of 20 go, less 3; 3: 7 go; 5: 4; 7 and 9: 3
    DutyBeats last = forced("junction 1 9;road 0 2 0;road 0 2 0", "let 1 if hour=19");
    due("in the 20th", rests(last, 0, 1, 20), 1, 3, 3);
    // none goes: 19, 7, 4, 3, 3 wait: -6, -2, -1, -1, -1
    due("in the 19 ahead of it", rests(last, 0, 1, 19), 9, 5, 5);
    due("0 and 21", row(last.rests(0, 1, 0, 0), last.rests(0, 1, 21, 0)), -1, -1);
  }
  private static void restsByEvery() {
    sentence(25, "on each comes one EVERY 1, 3, 5, 7 or 9 BEATS from now on, all else as it is");
    DutyBeats kept = at("junction 1 9;road 0 2 0;road 0 2 0;score 0 1");
    kept.beat();
    // BEATS 1 to 3: on ROAD 0 one waits: EVERY 1: 4, less 1; 3: 2; the others: 1; from ROAD 1 go 3, 1, 0, 0, 0
    due("by the BEAT, not from now", rests(kept, 0, 1, 3), 4, 3, 1);
    // in BEAT 9 one comes by 1, 3 and 9: from ROAD 1 it goes; on ROAD 0 5 wait, and lose 1, but 6 lose 2
    beats(kept, 8);
    due("BEAT 9 alone", rests(kept, 1, 0, 1), 6, 1, 5);
    // in BEAT 0 one comes by each; it goes if the RULE lets in by that EVERY
    for (int every = 1; every <= 12; every++) {
      DutyBeats by = forced("junction 1 9;road 0 2 0;road 0 2 0", "let 1 if every=" + every);
      if (every % 2 == 1 && every <= 9) due("EVERY " + every, rests(by, 0, 1, 1), 1, every, every);
      else due("never EVERY " + every, rests(by, 0, 1, 1), 25, 1, 1);
    }
    due("another ROAD goes on as it is", rests(at(TWO_OPEN + ";road 9 1 0"), 0, 1, 20), 1, 1, 1);
  }
  private static void aThirdDownwards() {
    sentence(25, "each has how many went from it in these, less a third, downwards, of how many wait then");
    // ROAD 0 is kept out: of 9 BEATS 9, 3, 2, 2, 1 wait: -3, -1, 0, 0, 0
    DutyBeats kept = at("junction 1 9;road 0 2 0;road 0 2 0;score 0 1");
    due("2 wait: nothing is lost", rests(kept, 0, 1, 9), 3, 5, 1);
    kept.come(0, 1);
    // 10, 4, 3, 3, 2: -3, -1, -1, -1, 0
    due("3 wait: one is", rests(kept, 0, 1, 9), 1, 9, 1);
    DutyBeats one = at("junction 1 9;road 0 2 0;road 0 2 0;score 0 0;score 0 1");
    // from ROAD 0 and 1 go as many as come: of 6 BEATS 6, 2, 2, 1, 1
    due("nobody waits", rests(one, 0, 1, 6), 1, 1, 1);
  }
  private static void restsOfTwos() {
    sentence(25, "twos of which neither would have more by another one: how many; the first (by the first one, then the second one)");
    due("all alike", rests(at(TWO_OPEN), 0, 1, 1), 25, 1, 1);
    DutyBeats kept = at("junction 1 9;road 0 2 0;road 0 2 0;score 0 1");
    due("5, 7 or 9 and 1", rests(kept, 0, 1, 9), 3, 5, 1);
    due("1 and 5, 7 or 9", rests(kept, 1, 0, 9), 3, 1, 5);
    // in BEAT 3 one comes by 1 and 3; both go if on both ROADS one comes, else none goes: both so, or both not
    DutyBeats both = forced("junction 1 9;road 0 12 0;road 0 12 0", "let 1 if all=2");
    beats(both, 3);
    due("1 or 3, or 5, 7 or 9, alike", rests(both, 0, 1, 1), 4 + 9, 1, 1);
  }
  private static void noRests() {
    sentence(25, "1, 2: EVERY of the first (-2: there is none).");
    // BEAT 1, EVERY 1 or not: 3 and 3 wait: 1, -1; 3 and 2: -1, 1; 2 and 3: 0, 1; 2 and 2: 0, 0
    DutyBeats chase = forced("junction 1 1;road 1 1 0;road 1 1 0", "let 1 if road = 0 and all % 5 = 1 or road = 1 and all % 2 = 1");
    due("there is none", rests(chase, 0, 1, 2), 0, -2, -2);
  }
  private static void restsWithout() {
    sentence(25, "NONE without these (unlike).");
    still("twice ROAD 0", Sentences::busy, x -> x.rests(0, 0, 1, 0), -1);
    still("ROAD 3", Sentences::busy, x -> x.rests(3, 0, 1, 0), -1);
    still("the other is ROAD 3", Sentences::busy, x -> x.rests(0, 3, 1, 0), -1);
    still("ROAD -1", Sentences::busy, x -> x.rests(-1, 0, 1, 0), -1);
    still("the other is ROAD -1", Sentences::busy, x -> x.rests(0, -1, 1, 0), -1);
    still("n 0", Sentences::busy, x -> x.rests(0, 1, 0, 0), -1);
    still("n 21", Sentences::busy, x -> x.rests(0, 1, 21, 0), -1);
    still("what 3", Sentences::busy, x -> x.rests(0, 1, 1, 3), -1);
    still("what -1", Sentences::busy, x -> x.rests(0, 1, 1, -1), -1);
    still("no JUNCTION", Sentences::empty, x -> x.rests(0, 1, 1, 0), -1);
  }
  private static int[] ring(DutyBeats x) { return row(x.ring(0), x.ring(1)); }
  /** So many wait, one fewer behind each BEAT. */
  private static DutyBeats dwindling(int bar, int wait) {
    DutyBeats x = at("junction " + bar + " 2;road 0 1 0");
    for (int beat = 0; beat < bar; beat++) x.score(beat, 0);
    for (int i = 0; i < wait; i++) x.come(0, 1);
    return x;
  }
  private static void ringOf60() {
    sentence(26, "RING: the first BEAT, this one the first, of 60, at whose begin on each ROAD as many wait as at the begin of a later one,"
        + " of the same beat of the BAR, 60 BEATS from now at most; how much later the first such is.");
    due("this one", ring(dwindling(1, 0)), 0, 1);
    due("the 60th", ring(dwindling(1, 59)), 59, 1);
    due("the 61st", ring(dwindling(1, 60)), -2, -2);
    due("60 BEATS from now", ring(dwindling(12, 48)), 48, 12);
    due("61 BEATS from now", ring(dwindling(12, 49)), -2, -2);
    DutyBeats later = dwindling(1, 60);
    later.beat();
    due("from BEAT 1 on", ring(later), 60, 1);
    due("of the same beat", ring(dwindling(7, 0)), 0, 7);
    due("on each ROAD", ring(at("junction 1 2;road 0 1 0;road 0 1 0;score 0 0")), -2, -2);
    due("the begin of a BEAT is ahead of who comes", ring(at("junction 1 1;road 0 12 0")), 1, 1);
  }
  private static void noRing() {
    sentence(26, "-2: there is none.");
    due("more and more", ring(at(SLOW)), -2, -2);
    due("no ROADS: at once", ring(at("junction 12 1")), 0, 12);
  }
  private static void ringForOthers() {
    sentence(26, "NONE for others, or without a JUNCTION.");
    still("ring(2)", Sentences::busy, x -> x.ring(2), -1);
    still("ring(-1)", Sentences::busy, x -> x.ring(-1), -1);
    still("no JUNCTION", Sentences::empty, x -> x.ring(0), -1);
    still("no JUNCTION, later", Sentences::empty, x -> x.ring(1), -1);
  }
  private static int[] pence(DutyBeats x, int much) { return row(x.pence(much, 0), x.pence(much, 1), x.pence(much, 2)); }
  private static void penceUpTo9999() {
    sentence(27, "PENCE (0 to 9999) among ROADS by WAITED");
    due("0", pence(threeBeats(), 0), 0, 0, 0);
    due("1", pence(threeBeats(), 1), 1, 0, 0);
    due("9999", pence(threeBeats(), 9999), 5555, 3889, 555);
    due("-1 and 10000", row(threeBeats().pence(-1, 0), threeBeats().pence(10000, 0)), -1, -1);
    DutyBeats most = at("junction 1 1;road 30 1 0;road 0 12 0;score 0 1");
    comes(most, 0, 49);
    beats(most, 102);
    due("9999 of 99999", row(most.pence(9999, 0), most.pence(9999, 1)), 9999, 0);
  }
  private static void partsDownwards() {
    sentence(27, "each the part downwards; what is left, one each, to those whose part lost most by that, of several the least first");
    // of 100: 55.55, 38.88, 5.55; two are left
    due("100 by 10, 7, 1", pence(threeBeats(), 100), 56, 39, 5);
    due("18 by 10, 7, 1", pence(threeBeats(), 18), 10, 7, 1);
    due("17: 9.44, 6.61, 0.94", pence(threeBeats(), 17), 9, 7, 1);
    DutyBeats even = at("junction 1 1;road 0 1 0;road 0 1 0;road 0 1 0");
    even.beat();
    due("1 of three alike", pence(even, 1), 1, 0, 0);
    due("2 of three alike", pence(even, 2), 1, 1, 0);
    due("3 of three alike", pence(even, 3), 1, 1, 1);
    due("11 of three alike", pence(even, 11), 4, 4, 3);
  }
  private static void penceForNobody() {
    sentence(27, "(nothing, if nobody has)");
    due("nobody WAITED", pence(small(), 9999), 0, 0, 0);
    DutyBeats one = at("junction 1 1;road 0 1 0;road 0 1 0;road 0 12 0;score 0 0;score 0 2");
    one.beat();
    due("one WAITED", pence(one, 7), 0, 7, 0);
  }
  private static void penceWithout() {
    sentence(27, "PENCE of a ROAD; NONE without these.");
    still("-1", Sentences::busy, x -> x.pence(-1, 0), -1);
    still("10000", Sentences::busy, x -> x.pence(10000, 0), -1);
    still("ROAD 3", Sentences::busy, x -> x.pence(1, 3), -1);
    still("ROAD -1", Sentences::busy, x -> x.pence(1, -1), -1);
    still("no JUNCTION", Sentences::empty, x -> x.pence(1, 0), -1);
    still("nobody WAITED, 10000", AskBoundaries::small, x -> x.pence(10000, 0), -1);
  }

  // ---- promises 28 to 30

  private static void notes0To9() {
    sentence(28, "NOTES 0 to 9, told: in the n-th BEAT of all (0 to 60) so many went from a ROAD (0 to 9).");
    DutyBeats x = at(SMALL);
    due("n 0, many 0", x.note(0, 0, 0), 1);
    due("n 60, ROAD 2, many 9", x.note(60, 2, 9), 2);
    for (int i = 3; i <= 10; i++) due("NOTE " + i, x.note(5, 1, 1), i);
    due("how many", x.count(10), 10);
    // one comes and goes in each BEAT but 0 and 60
    DutyBeats ends = at("junction 1 9;road 0 1 0", "let 1 if hour>0 and hour<60");
    ends.note(0, 0, 0);
    due("BEAT 0 is the first", row(ends.ruled(0), ends.ruled(1)), 2, -1);
    ends.note(60, 0, 0);
    due("BEAT 60 is the last", row(ends.ruled(0), ends.ruled(1)), 2, -1);
    ends.note(1, 0, 2);
    due("two go in BEAT 1", row(ends.ruled(0), ends.ruled(1)), 1, 0);
    ends.note(59, 0, 1);
    due("one goes in BEAT 59", row(ends.ruled(0), ends.ruled(1)), 1, 0);
    ends.note(60, 0, 1);
    due("not in BEAT 60", ends.ruled(0), 0);
  }
  private static void noNotesThen() {
    sentence(28, "A NOTE (n NONE: there are none then, 0): how many");
    DutyBeats x = tenNotes();
    due("none then", row(x.note(-1, 0, 0), x.count(10), x.note(0, 0, 0)), 0, 0, 1);
    due("whatever else is told", row(x.note(-1, 99, -99), x.count(10)), 0, 0);
    due("none of none", x.note(-1, 0, 0), 0);
    due("no JUNCTION", new DutyBeats().note(-1, 0, 0), 0);
  }
  private static void noNote() {
    sentence(28, "-2, and nothing happens, without these, or if there are 10.");
    still("n 61", Sentences::busy, x -> x.note(61, 0, 0), -2);
    still("n -2", Sentences::busy, x -> x.note(-2, 0, 0), -2);
    still("ROAD 3", Sentences::busy, x -> x.note(0, 3, 0), -2);
    still("ROAD -1", Sentences::busy, x -> x.note(0, -1, 0), -2);
    still("10 went", Sentences::busy, x -> x.note(0, 0, 10), -2);
    still("-1 went", Sentences::busy, x -> x.note(0, 0, -1), -2);
    still("an eleventh", AskBoundaries::tenNotes, x -> x.note(0, 0, 0), -2);
    still("no JUNCTION", Sentences::empty, x -> x.note(0, 0, 0), -2);
  }
  private static void noneAheadOf0() {
    sentence(29, "RULED: which of the RULES, and of none, so that from the begin on, all as the text told it, all NOTES are so: how many; the first (none ahead of 0, told as NONE)");
    DutyBeats x = at(SMALL, "let scored", "let 1", "let road");
    due("no NOTES: none and three", row(x.ruled(0), x.ruled(1)), 4, -1);
    x.note(1, 0, 2);
    due("RULE 1", row(x.ruled(0), x.ruled(1)), 1, 1);
    x.note(-1, 0, 0);
    x.note(0, 0, 2);
    due("none, 0 and 1", row(x.ruled(0), x.ruled(1)), 3, -1);
    x.come(0, 20);
    x.score(0, 0);
    x.force(2);
    x.beat();
    due("as the text told it", row(x.ruled(0), x.ruled(1)), 3, -1);
    x.note(-1, 0, 0);
    x.note(1, 2, 1);
    due("in BEAT 1 one went from ROAD 2: by the score and RULE 0", row(x.ruled(0), x.ruled(1)), 2, -1);
    DutyBeats six = at(SLOW, "let 0", "let 1", "let 1", "let 1", "let 1", "let 1");
    due("none and six", row(six.ruled(0), six.ruled(1)), 7, -1);
    six.note(0, 0, 1);
    due("RULES 1 to 5", row(six.ruled(0), six.ruled(1)), 5, 1);
    six.note(-1, 0, 0);
    six.note(0, 0, 0);
    due("none and RULE 0", row(six.ruled(0), six.ruled(1)), 2, -1);
  }
  private static void noneIsSo() {
    sentence(29, "1: the first (NONE: none; -2: there is none such).");
    DutyBeats x = at(SLOW, "let 1");
    due("none and RULE 0", x.ruled(1), -1);
    x.note(3, 0, 1);
    due("RULE 0", x.ruled(1), 0);
    x.note(3, 0, 2);
    due("there is none such", row(x.ruled(0), x.ruled(1)), 0, -2);
  }
  private static void ruledForOthers() {
    sentence(29, "-3 for others, or without a JUNCTION.");
    still("ruled(2)", Sentences::busy, x -> x.ruled(2), -3);
    still("ruled(-1)", Sentences::busy, x -> x.ruled(-1), -3);
    still("no JUNCTION", Sentences::empty, x -> x.ruled(0), -3);
    still("no JUNCTION, the first", Sentences::empty, x -> x.ruled(1), -3);
    due("no ROADS", at("junction 1 1").ruled(0), 1);
  }
  private static int[] look(DutyBeats x, int n) { return row(x.look(n, 0), x.look(n, 1)); }
  private static void mostAlikeAreFewest() {
    sentence(30, "the most alike are fewest, of several the least; how many");
    DutyBeats x = at(SMALL, "let scored", "let 1", "let road");
    // BEAT 0: from ROAD 0 go 2 2 2 0, from 1 go 2 2 2 2, from 2 go 0 0 0 1
    due("BEAT 0, the least of two", look(x, 0), 0, 3);
    // BEAT 1: from ROAD 0: 0 0 2 0; 1: 0 0 2 2; 2: 1 1 0 0
    due("BEAT 1, the least of two", look(x, 1), 1, 2);
    due("one RULE alone", look(small(), 5), 0, 1);
    due("RULE 5 alone is so", look(notedOnce(at(OPEN, "let 0", "let 0", "let 0", "let 0", "let 0", "let 1 if hour=0")), 0), 0, 1);
    due("five alike, not the score", look(at(SLOW, "let 0", "let 1", "let 1", "let 1", "let 1", "let 1"), 0), 0, 5);
    due("seven alike", look(at(SLOW, "let 0", "let 0", "let 0", "let 0", "let 0", "let 0"), 0), 0, 7);
  }
  /** In BEAT 1 none went from ROAD 0, in BEAT 0 one did. */
  private static DutyBeats notedOnce(DutyBeats x) {
    x.note(0, 0, 1);
    x.note(1, 0, 0);
    return x;
  }
  private static void lookUpTo60() {
    sentence(30, "LOOK (n 0 to 60) what 0: the ROAD, 1: how many");
    // as by the score, but for BEAT 60, and then BEAT 0
    due("BEAT 59 and 60", row(at(OPEN, "let 1 if hour<60").look(59, 1), at(OPEN, "let 1 if hour<60").look(60, 1)), 2, 1);
    due("BEAT 0", at(OPEN, "let hour").look(0, 1), 1);
    due("-1 and 61", row(at(OPEN).look(-1, 0), at(OPEN).look(61, 0)), -1, -1);
  }
  private static void lookAtNothing() {
    sentence(30, "-2: no RULE is so, or there are no ROADS.");
    DutyBeats x = at(OPEN, "let 1");
    x.note(0, 0, 9);
    due("no RULE is so", look(x, 0), -2, -2);
    due("no ROADS", look(at("junction 1 1", "let 1"), 60), -2, -2);
  }
  private static void lookWithout() {
    sentence(30, "NONE without these, or a JUNCTION.");
    still("n -1", Sentences::busy, x -> x.look(-1, 0), -1);
    still("n 61", Sentences::busy, x -> x.look(61, 0), -1);
    still("what 2", Sentences::busy, x -> x.look(0, 2), -1);
    still("what -1", Sentences::busy, x -> x.look(0, -1), -1);
    still("no JUNCTION", Sentences::empty, x -> x.look(0, 0), -1);
    still("no JUNCTION, how many", Sentences::empty, x -> x.look(0, 1), -1);
  }

  // ---- promises 31 and 32

  private static void xAtFirst() {
    sentence(31, "DRAWS: x (0 to 2147483647; 0 at first)");
    DutyBeats x = new DutyBeats();
    due("0 at first", x.seed(2147483647), 0);
    due("the most, then 0", row(x.seed(0), x.count(12)), 2147483647, 0);
  }
  private static void drawsGoRound() {
    sentence(31, "becomes x * 1103515245 + 12345, of 2147483648 the rest; a DRAW is x / 65536.");
    // 0: 12345, DRAW 0; 1406932606, DRAW 21468; 654583775, DRAW 9988
    due("from 0: below 1", at(OPEN).mornings(1, 1, 1, 0), 4);
    due("the third: 88 is not below 88", at(OPEN).mornings(1, 2, 88, 0), 4 + 1);
    due("the third: 88 is below 89", at(OPEN).mornings(1, 2, 89, 0), 4 + 4);
    // 2147483647: 1043980748, DRAW 15929
    DutyBeats most = at(OPEN);
    most.seed(2147483647);
    due("from the most: 29 is not below 29", most.mornings(1, 1, 29, 0), 1);
    due("from the most: 29 is below 30", most.mornings(1, 1, 30, 0), 4);
    // 1877714563: 6553600, DRAW 100; 20036382: 6553599, DRAW 99; 230538014: 2147483647, DRAW 32767
    int[][] edges = {{1877714563, 0}, {20036382, 99}, {230538014, 67}};
    for (int[] edge : edges) {
      most.seed(edge[0]);
      due("from " + edge[0] + " by " + edge[1], row(most.mornings(1, 1, edge[1], 0), most.mornings(1, 1, edge[1] + 1, 0)), 1, 4);
    }
    // 1: 1103527590, DRAW 16838; 377401575, DRAW 5758: ROAD 4 of 6
    DutyBeats six = forced("junction 1 9" + times(";road 0 12 0", 6), "let 1 if road=4");
    six.seed(1);
    due("ROAD 4 of six, by 38", row(six.mornings(1, 1, 38, 0), six.mornings(1, 1, 39, 0)), 1, 4);
  }
  private static void seedBelow0() {
    sentence(31, "x becomes a number: what it was; NONE, and nothing happens, below 0.");
    due("what it was", row(busy().seed(0)), 77);
    still("-1", Sentences::busy, x -> x.seed(-1), -1);
    still("the least", Sentences::busy, x -> x.seed(Integer.MIN_VALUE), -1);
    still("no JUNCTION", Sentences::empty, x -> x.seed(-1), -1);
  }
  private static void tenTimes60() {
    sentence(32, "MORNINGS m times (1 to 10) n BEATS (1 to 60) from now on");
    DutyBeats x = at(OPEN);
    due("once one", x.mornings(1, 1, 0, 0), 1);
    due("ten times 60", x.mornings(10, 60, 0, 0), 600);
    due("0, 11, 0 and 61", row(x.mornings(0, 1, 0, 0), x.mornings(11, 1, 0, 0), x.mornings(1, 0, 0, 0), x.mornings(1, 61, 0, 0)),
        -100000, -100000, -100000, -100000);
    DutyBeats later = at(OPEN);
    beats(later, 3);
    due("from now on", later.mornings(2, 2, 0, 0), 4);
  }
  private static void belowP() {
    sentence(32, "is it below p (0 to 100), and are there ROADS, a DRAW mod how many: on that one 3 more wait (999 at most)");
    due("p 0: never", at(OPEN).mornings(10, 60, 0, 0), 600);
    due("p 100: always", at(OPEN).mornings(10, 60, 100, 0), 2400);
    due("no ROADS", row(at("junction 1 1").mornings(10, 60, 100, 0), at("junction 1 1").mornings(10, 60, 100, 1)), 0, 0);
    due("-1 and 101", row(at(OPEN).mornings(1, 1, -1, 0), at(OPEN).mornings(1, 1, 101, 0)), -100000, -100000);
    DutyBeats full = forced("junction 1 9;road 30 12 0", "let 1 if wait>999;let 1 if hour=59 and wait=999");
    comes(full, 0, 49);
    due("999 at most", full.mornings(1, 60, 100, 0), 9);
    // the DRAW is ahead of the BEAT: 997 and 3 would be 1000, and then one comes
    DutyBeats near = forced("junction 1 9;road 17 12 0", "let 1 if wait>999");
    comes(near, 0, 49);
    due("997 and 3", near.mornings(1, 1, 100, 0), 0);
  }
  private static void nothingStays() {
    sentence(32, "(nothing stays; x as it was)");
    unmoved("mornings", x -> x.mornings(10, 60, 100, 1));
    DutyBeats x = at(OPEN);
    x.seed(2147483647);
    x.mornings(10, 60, 100, 0);
    due("x", x.count(12), 2147483647);
    // each morning begins from now, but the DRAWS go on: 0, then 88
    DutyBeats two = at(OPEN);
    due("the second morning has other DRAWS", two.mornings(2, 1, 88, 0), 4 + 1);
  }
  private static void morningsHeardBelow0() {
    sentence(32, "1: HEARD (below 0, too).");
    DutyBeats x = at("junction 1 9;road 0 1 0;road 0 1 1;score 0 0;score 0 1");
    due("ten times 60 of -3", x.mornings(10, 60, 0, 1), -1800);
    x.beat();
    due("in these alone", x.mornings(1, 1, 0, 1), -3);
  }
  private static void morningsWithout() {
    sentence(32, "-100000 without these, or a JUNCTION.");
    int[][] without = {{0, 1, 0, 0}, {11, 1, 0, 0}, {1, 0, 0, 0}, {1, 61, 0, 0}, {1, 1, -1, 0}, {1, 1, 101, 0}, {1, 1, 0, -1}, {1, 1, 0, 2}};
    for (int[] w : without) {
      still("mornings(" + w[0] + ", " + w[1] + ", " + w[2] + ", " + w[3] + ")", Sentences::busy, x -> x.mornings(w[0], w[1], w[2], w[3]), -100000);
    }
    still("no JUNCTION", Sentences::empty, x -> x.mornings(1, 1, 0, 0), -100000);
    still("no JUNCTION, HEARD", Sentences::empty, x -> x.mornings(1, 1, 0, 1), -100000);
  }
}
