/** The boundary cases of promises 25 to 32 and of their TERMS: each method is one sentence. */
public final class HeardEdgesTest {
  private static final Checks C = new Checks();
  private static final int NONE = Checks.NONE;
  private static final int UNKNOWN = Checks.UNKNOWN;
  private static final int OUTSIDE = Checks.OUTSIDE;
  private static final int FULL = Checks.FULL;
  private static final String FIELD = "f0 2 0 0;";
  private static final String TWO = FIELD + FIELD;
  private static final String THREE = TWO + FIELD;
  private static final int BILLION = 1000000000;
  private static final int MIN = Integer.MIN_VALUE;
  private static final int MAX = Integer.MAX_VALUE;

  public static void main(String[] args) {
    hearBounds();
    twelveAreHeard();
    nothingHeardYet();
    beganBounds();
    beganNotSoMany();
    beganZeroToThirtyStepsAgo();
    watchOfLessThanTwo();
    watchTakesNoneThatPartsNothing();
    watchOfLikeOnes();
    watchWithNothingHeard();
    seeBounds();
    twelveAreSeen();
    nothingSeenYet();
    roundsBounds();
    roundsNotSoMany();
    roundsOfTheFieldAlone();
    roundsByBaseAndSwingAsTold();
    cellarBounds();
    cellarsBelow();
    cellarsNowIsTheFirst();
    cellarsOfNoFields();
    sluiceBounds();
    sluicesOfOneFieldAlone();
    sluicesForNoCellar();
    sluicesOfLikeOnesTheLeast();
    sluicesAtBothEnds();
    oddsBounds();
    oddsOfNoneAndAllHeld();
    oddsOrMore();
    oddsAreCut();
    oddsFromNow();
    C.finish();
  }

  private static Run fresh(String sentence) {
    return Run.fresh(C, sentence);
  }

  private static Run on(String sentence, String text) {
    return Run.on(C, sentence, text);
  }

  private static void hearBounds() {
    Run r = on("25 hear: STEPS ago (0 .. 30)", TWO);
    r.due("hear 0 -1;hear 0 31;hear 1 " + MIN + ";hear 1 " + MAX, OUTSIDE);
    r.due("hear -1 0;hear 2 0;hear 2 31;hear -1 -1;hear " + MIN + " 0;hear " + MAX + " 0", UNKNOWN).due("told 9", 0);
    r.due("hear 0 0", 1).due("hear 1 30", 2).due("told 9", 2);
    on("25 hear: the eighth FIELD", FIELD.repeat(8)).due("hear 8 0", UNKNOWN).due("hear 7 30", 1).due("began -1", 1)
        .due("began 0", 730);
    fresh("25 hear: no FIELDS").due("hear 0 0;hear 0 31", UNKNOWN);
  }

  private static void twelveAreHeard() {
    Run r = on("25: FULL (12)", THREE);
    for (int k = 1; k <= 12; k++) {
      r.due("hear 1 4", k);
    }
    r.due("hear 1 4;hear 0 0;hear 2 30", FULL).due("hear 1 31;hear 1 -1", OUTSIDE).due("hear 3 4;hear 3 31", UNKNOWN);
    r.due("told 9", 12).due("began -1", 3).due("began 0", 5).due("tear", 12).due("hear 1 4", 1);
    Run last = on("25: the twelfth counts", THREE).go("hear 1 4;".repeat(11)).due("began -1", 3);
    last.due("hear 0 3", 12).due("began -1", 2).row("began", 104, 205, NONE);
  }

  private static void nothingHeardYet() {
    on("26: nothing HEARD: all", TWO).due("began -1", 62).due("began 0", 0).due("began 30", 30).due("began 31", 100)
        .due("began 61", 130).due("began 62", NONE);
    on("26: nothing HEARD: all of eight", FIELD.repeat(8)).due("began -1", 248).due("began 247", 730).due("began 248", NONE);
    fresh("26: no FIELDS").due("began -1", 0).due("began 0", NONE);
  }

  private static void beganBounds() {
    on("26: i = NONE how many, else the i-th", THREE).go("hear 1 4").due("began -1", 3).row("began", 5, 104, 205, NONE);
  }

  private static void beganNotSoMany() {
    on("26: NONE: not so many", THREE).go("hear 1 4").due("began 3;began 4;began " + MAX + ";began -2;began " + MIN, NONE)
        .go("hear 1 5").due("began -1", 0).due("began 0;began 1", NONE);
  }

  private static void beganZeroToThirtyStepsAgo() {
    on("3: 30 STEPS ago, not 31", THREE).go("hear 0 30").due("began -1", 1).row("began", 30, NONE);
    on("3: 30 STEPS ago, not 31", THREE).go("hear 0 29").due("began -1", 2).row("began", 29, 130, NONE);
    on("3: 30 STEPS ago, not 31", THREE).go("hear 0 28").due("began -1", 3).row("began", 28, 129, 230, NONE);
    on("3: 0 STEPS ago", THREE).go("hear 0 0").due("began -1", 3).row("began", 0, 101, 202, NONE);
    on("3: it began nowhere", THREE).go("hear 0 0;hear 2 5").due("began -1", 0);
    on("3: as many STEPS later as it is FIELDS off", THREE).go("hear 0 2;hear 2 0").due("began -1", 1).row("began", 2, NONE);
    on("3: from the middle both ways", THREE).go("hear 0 3;hear 2 3").due("began -1", 1).row("began", 104, NONE);
  }

  private static void watchOfLessThanTwo() {
    fresh("27: NONE: less than two: no FIELDS").due("watch", NONE);
    on("27: NONE: less than two: none", TWO).go("hear 0 0;hear 0 1").due("began -1", 0).due("watch", NONE);
    on("27: NONE: less than two: one", THREE).go("hear 0 30").due("began -1", 1).due("watch", NONE);
  }

  private static void watchTakesNoneThatPartsNothing() {
    // (0, 30), (1, 29): to field 1 they come alike; (0, 29), (1, 30): to field 0 they do.
    on("27: a FIELD that parts none is not taken", TWO).go("hear 1 29").due("began -1", 2).due("watch", 0);
    on("27: a FIELD that parts none is not taken", TWO).go("hear 0 29").due("began -1", 2).due("watch", 1);
  }

  private static void watchOfLikeOnes() {
    on("3: of like ones the least", FIELD.repeat(4)).go("hear 1 4;hear 2 3").due("began -1", 2).due("watch", 0);
    on("3: the greatest part is least", FIELD.repeat(4)).go("hear 1 4").due("began -1", 4).due("watch", 2);
    on("3: parted by when it comes, though that is still to come", TWO).go("hear 0 0").due("watch", 1);
  }

  private static void watchWithNothingHeard() {
    on("3: nothing HEARD, one FIELD: parted by the STEPS", FIELD).due("began -1", 31).due("watch", 0);
    on("3: nothing HEARD, two FIELDS: both alike", TWO).due("watch", 0);
    on("3: nothing HEARD, eight FIELDS", FIELD.repeat(8)).due("watch", 0);
  }

  private static void seeBounds() {
    Run r = on("28 see: a BREATH (0 .. 9999), a HEIGHT (0 .. 999)", TWO);
    r.due("see 0 -1 0;see 0 10000 0;see 0 " + MIN + " 0;see 0 " + MAX + " 0", OUTSIDE);
    r.due("see 0 0 -1;see 0 0 1000;see 0 0 " + MIN + ";see 0 0 " + MAX + ";see 0 -1 -1", OUTSIDE);
    r.due("see -1 0 0;see 2 0 0;see 2 10000 0;see 2 0 1000;see " + MIN + " 0 0;see " + MAX + " 0 0", UNKNOWN);
    r.due("told 10", 0).due("see 0 0 0", 1).due("see 1 9999 0", 2).due("see 1 0 999", 3).due("told 10", 3);
    fresh("28 see: no FIELDS").due("see 0 0 0;see 0 -1 0", UNKNOWN);
  }

  private static void twelveAreSeen() {
    Run r = on("28: FULL (12)", "f5 6 0 3;");
    for (int k = 1; k <= 12; k++) {
      r.due("see 0 0 5", k);
    }
    r.due("see 0 0 5;see 0 1 8;see 0 9999 999", FULL).due("see 0 10000 5;see 0 0 1000", OUTSIDE).due("see 1 0 5", UNKNOWN);
    r.due("told 10", 12).due("rounds 0 -1", 11).due("tear", 12).due("see 0 0 5", 1);
    on("28: the twelfth counts", "f5 6 0 3;").go("see 0 0 5;".repeat(11)).due("rounds 0 -1", 11).due("see 0 1 999", 12)
        .due("rounds 0 -1", 0);
  }

  private static void nothingSeenYet() {
    on("29: nothing SEEN: all", FIELD).due("rounds 0 -1", 77).due("rounds 0 0", 200).due("rounds 0 1", 201)
        .due("rounds 0 2", 300).due("rounds 0 65", 1200).due("rounds 0 64", 1110).due("rounds 0 76", 1211)
        .due("rounds 0 77", NONE);
  }

  private static void roundsBounds() {
    on("29: UNKNOWN", TWO).due("rounds -1 -1;rounds 2 -1;rounds 2 0;rounds " + MIN + " 0;rounds " + MAX + " 0", UNKNOWN)
        .due("rounds 1 -1", 77);
    fresh("29: UNKNOWN: no FIELDS").due("rounds 0 -1;rounds 0 0", UNKNOWN);
  }

  private static void roundsNotSoMany() {
    on("29: NONE: not so many", FIELD).due("rounds 0 77;rounds 0 " + MAX + ";rounds 0 -2;rounds 0 " + MIN, NONE)
        .go("see 0 0 1").due("rounds 0 -1", 0).due("rounds 0 0", NONE);
  }

  private static void roundsOfTheFieldAlone() {
    on("3: all SEEN of a FIELD", "f5 6 0 3;f5 6 0 3;").go("see 1 0 6").due("rounds 0 -1", 77).due("rounds 1 -1", 0)
        .go("see 0 0 5").due("rounds 0 -1", 11).due("rounds 1 -1", 0);
  }

  private static void roundsByBaseAndSwingAsTold() {
    // 5 above the base by a swing of 1: only N of 10 and more rise so high.
    on("3: B and S as told", "f7 2 0 1;").go("see 0 9999 12").due("rounds 0 -1", 5).due("rounds 0 0", 1006)
        .row("rounds 0", 1006, 1105, 1106, 1202, 1204, NONE);
    on("3: the highest of all", "f99 2 0 9;").go("see 0 0 153").due("rounds 0 -1", 1).row("rounds 0", 1206, NONE);
    on("3: above the highest of all", "f99 2 0 9;").go("see 0 0 154").due("rounds 0 -1", 0);
    on("3: L up to N less 1", "f0 2 0 1;").go("see 0 1 0").due("rounds 0 -1", 11)
        .row("rounds 0", 201, 302, 403, 504, 605, 706, 807, 908, 1009, 1110, 1211, NONE);
  }

  private static void cellarBounds() {
    Run r = on("30 cellars: v (0 .. 999), n (1 .. 40)", "f99 12 6 9;f0 2 0 0;");
    r.due("cellars 0 1;cellars 0 40", 0).due("cellars 999 1;cellars 999 40", 3);
    r.due("cellars -1 1;cellars 1000 1;cellars " + MIN + " 1;cellars " + MAX + " 1", OUTSIDE);
    r.due("cellars 0 0;cellars 0 41;cellars 0 -1;cellars 0 " + MIN + ";cellars 0 " + MAX + ";cellars -1 0", OUTSIDE);
  }

  private static void cellarsBelow() {
    on("3: below v", "f7 2 0 0;f8 2 0 0;f6 2 0 0;").due("cellars 6 40", 0).due("cellars 7 40", 4).due("cellars 8 40", 5)
        .due("cellars 9 40", 7);
    on("30: all eight", FIELD.repeat(8)).due("cellars 1 1", 255).due("cellars 0 40", 0);
  }

  private static void cellarsNowIsTheFirst() {
    // At 0, 5, 10, 5, 0.
    Run r = on("3: one of n BREATHS from now; now is the first", "f0 4 0 5;");
    r.due("cellars 1 1", 1).go("step 1").due("cellars 1 1;cellars 1 2;cellars 1 3", 0).due("cellars 1 4", 1);
    r.go("hold 3").due("cellars 1 3", 0).due("cellars 1 4", 1).go("step 3").due("cellars 1 1", 1);
  }

  private static void cellarsOfNoFields() {
    fresh("30: no FIELDS").due("cellars 999 40;cellars 0 1", 0).due("cellars 1000 1;cellars 0 0", OUTSIDE);
  }

  private static void sluiceBounds() {
    Run r = on("31 sluices: v, n, what", TWO);
    r.due("sluices 0 1 0;sluices 0 40 0;sluices 0 1 1", 0).due("sluices 999 1 0;sluices 999 40 0;sluices 999 40 1", 1);
    r.due("sluices -1 1 0;sluices 1000 1 0;sluices 0 0 0;sluices 0 41 0;sluices 0 1 -1;sluices 0 1 2", OUTSIDE);
    r.due("sluices " + MIN + " 1 0;sluices " + MAX + " 1 0;sluices 0 " + MIN + " 0;sluices 0 " + MAX + " 0", OUTSIDE);
    r.due("sluices 0 1 " + MIN + ";sluices 0 1 " + MAX, OUTSIDE);
    fresh("31 sluices: no FIELDS").due("sluices 999 1 0;sluices 999 1 1", 0).due("sluices 1000 1 0;sluices 0 1 2", OUTSIDE);
  }

  private static void sluicesOfOneFieldAlone() {
    on("3: NONE: not by any (one FIELD alone)", "f5 2 0 0;").due("sluices 6 1 0;sluices 6 1 1", NONE)
        .due("sluices 5 1 0;sluices 5 1 1", 0);
  }

  private static void sluicesForNoCellar() {
    on("3: the fewest: none", "f5 2 0 0;f6 2 0 0;").due("sluices 5 40 0;sluices 5 40 1", 0).due("sluices 6 1 0;sluices 6 1 1", 1);
    on("3: from now", "f0 4 0 5;f9 2 0 0;").go("step 1").due("sluices 1 3 0", 0).due("sluices 1 4 0", 1);
  }

  private static void sluicesOfLikeOnesTheLeast() {
    on("3: of like ones the least", "f9 2 0 0;f0 2 0 0;f9 2 0 0;").due("sluices 1 1 0", 1).due("sluices 1 1 1", 1);
    on("3: of like ones the least", "f0 2 0 0;f9 2 0 0;f9 2 0 0;f0 2 0 0;f9 2 0 0;").due("sluices 1 1 0", 2).due("sluices 1 1 1", 5);
    on("3: the fewest ahead of the least", "f9 2 0 0;f0 2 0 0;f0 2 0 0;").due("sluices 1 1 0", 1).due("sluices 1 1 1", 2);
    on("3: all five", FIELD.repeat(5)).due("sluices 1 1 0", 3).due("sluices 1 1 1", 11);
  }

  private static void sluicesAtBothEnds() {
    String dry = "f9 2 0 0;";
    on("31: bit k: behind FIELD k: the first", FIELD + dry.repeat(7)).due("sluices 1 1 0", 1).due("sluices 1 1 1", 1);
    on("31: bit k: behind FIELD k: the last", dry.repeat(7) + FIELD).due("sluices 1 1 0", 1).due("sluices 1 1 1", 64);
    on("31: all eight", FIELD.repeat(8)).due("sluices 1 1 0", 4).due("sluices 1 1 1", 85);
  }

  private static void oddsBounds() {
    Run r = on("32 odds: v (0 .. 999), n (1 .. 20), q 0 .. 100", TWO);
    r.due("odds 0 0 1 0;odds 1 0 20 100", BILLION).due("odds 0 999 1 0;odds 0 999 20 100", 0);
    r.due("odds 0 -1 1 0;odds 0 1000 1 0;odds 0 0 0 0;odds 0 0 21 0;odds 0 0 1 -1;odds 0 0 1 101", OUTSIDE);
    r.due("odds 0 " + MIN + " 1 0;odds 0 " + MAX + " 1 0;odds 0 0 " + MIN + " 0;odds 0 0 " + MAX + " 0", OUTSIDE);
    r.due("odds 0 0 1 " + MIN + ";odds 0 0 1 " + MAX, OUTSIDE);
    r.due("odds -1 0 1 0;odds 2 0 1 0;odds 2 -1 1 0;odds 2 0 0 0;odds 2 0 1 101;odds " + MIN + " 0 1 0", UNKNOWN);
    r.due("odds " + MAX + " 0 1 0", UNKNOWN);
    fresh("32 odds: no FIELDS").due("odds 0 0 1 0;odds 0 -1 0 101", UNKNOWN);
  }

  private static void oddsOfNoneAndAllHeld() {
    // At 0, 9, 0, 9.
    Run r = on("3: q 0: none is HELD; q 100: all are", "f0 2 0 9;");
    r.due("odds 0 9 1 0;odds 0 9 19 0", BILLION).due("odds 0 9 2 0;odds 0 9 20 0", 0);
    r.due("odds 0 9 1 100;odds 0 9 19 100;odds 0 9 20 100", 0).due("odds 0 0 20 100", BILLION);
  }

  private static void oddsOrMore() {
    on("3: v or more", "f0 2 0 9;").due("odds 0 9 1 40", 600000000).due("odds 0 10 1 40", 0).due("odds 0 1 1 40", 600000000)
        .due("odds 0 0 1 40", BILLION);
  }

  private static void oddsAreCut() {
    // High now: only what is held every time stays there.
    Run r = on("3: what is there times q / 100 (cut) is HELD, the rest not", "f0 12 6 9;");
    r.due("odds 0 54 1 1", 10000000).due("odds 0 54 2 1", 100000).due("odds 0 54 3 1", 1000).due("odds 0 54 4 1", 10);
    r.due("odds 0 54 5 1", 0).due("odds 0 54 1 99", 990000000).due("odds 0 54 5 99", 950990049).due("odds 0 54 6 99", 941480148);
    r.due("odds 0 45 1 99", BILLION).due("odds 0 45 2 1", 100000 + 2 * 9900000);
    on("3: all shares together are a BILLION", "f0 7 3 1;").due("odds 0 0 20 1;odds 0 0 20 33;odds 0 0 19 77", BILLION);
  }

  private static void oddsFromNow() {
    on("3: in n STEPS from now", "f0 2 0 9;").go("step 1").due("odds 0 9 1 0", 0).due("odds 0 9 2 0", BILLION).go("hold 3")
        .due("odds 0 9 1 0", 0).due("odds 0 9 1 25", 250000000);
  }
}
