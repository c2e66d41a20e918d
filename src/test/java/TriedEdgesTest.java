/** The boundary cases of promises 16 to 24 and of their TERMS: each method is one sentence. */
public final class TriedEdgesTest {
  private static final Checks C = new Checks();
  private static final int NONE = Checks.NONE;
  private static final int UNKNOWN = Checks.UNKNOWN;
  private static final int OUTSIDE = Checks.OUTSIDE;
  private static final String FIELD = "f0 2 0 0;";
  private static final String TWO = FIELD + FIELD;
  private static final String THREE = TWO + FIELD;
  private static final int MIN = Integer.MIN_VALUE;
  private static final int MAX = Integer.MAX_VALUE;

  public static void main(String[] args) {
    nothingChangesByTrying();
    cracksOfHousesThatThereAre();
    cracksNowToo();
    cracksAtTheEndOfTheRound();
    cracksNever();
    worstOfNone();
    worstOfLikeOnes();
    worstIsByWhatItNeedsMore();
    waterBounds();
    waterBehindNoSteps();
    waterAtTheEndsOfTheStreet();
    waterOnTheLevelStays();
    waterOfTwoTheLower();
    waterByHeightsBehindTheStep();
    millBounds();
    millCountsNoLevelBreath();
    millIsOfTheStreetsRound();
    bestMillOfLessThanTwoFields();
    bestMillOfLikeOnes();
    soonestBounds();
    soonestItIsThere();
    soonest200AtMost();
    soonestNever();
    soonestFromNow();
    leastBounds();
    leastItIsThere();
    leastEndsWhenItIsThere();
    leastOfLikeOnesTheFirst();
    leastTheIth();
    leastNone();
    leastOfThirtySteps();
    openBounds();
    openOfNoSeams();
    openNow();
    openAtTheEndOfTheRound();
    openNever();
    longestBounds();
    longestAlways();
    longestNever();
    longestRoundTheEnd();
    C.finish();
  }

  private static Run fresh(String sentence) {
    return Run.fresh(C, sentence);
  }

  private static Run on(String sentence, String text) {
    return Run.on(C, sentence, text);
  }

  private static void nothingChangesByTrying() {
    Probe.sameIn(C, "3: TRIED: nothing changes by it", Probe::fed, x -> {
      x.cracks(0);
      x.worst();
      x.water(2, 99);
      x.mill(0, 2);
      x.bestMill();
      x.soonest(0, 3);
      x.least(0, 3, 30, -1);
      x.least(3, 0, 30, 4);
      x.open(7);
      x.longest(7);
      x.began(0);
      x.watch();
      x.rounds(0, 0);
      x.cellars(9, 40);
      x.sluices(9, 40, 1);
      x.odds(0, 9, 20, 50);
      x.judge(1);
      x.fault();
      x.told(8);
      x.height(0, 77);
      x.house(0, 2);
    });
  }

  private static void cracksOfHousesThatThereAre() {
    on("16: UNKNOWN", "f0 2 0 0;f9 2 0 0;h0 1;h0 9;").due("cracks 0", 0).due("cracks 1", NONE)
        .due("cracks 2;cracks -1;cracks " + MIN + ";cracks " + MAX, UNKNOWN);
    on("16: UNKNOWN: no HOUSES", TWO).due("cracks 0", UNKNOWN);
    fresh("16: UNKNOWN: no FIELDS").due("cracks 0", UNKNOWN);
  }

  private static void cracksNowToo() {
    // Leans 0, 9, 0, 9.
    on("3: from now on (now, too)", "f0 2 0 0;f0 2 0 9;h0 8;").due("cracks 0", 1).go("step 1").due("cracks 0", 1)
        .go("hold 5").due("cracks 0", 1).go("step 1").due("cracks 0", 3);
    on("3: more than SLACK", "f0 2 0 0;f0 2 0 9;h0 9;").due("cracks 0", NONE).go("slack 0 8").due("cracks 0", 1);
  }

  private static void cracksAtTheEndOfTheRound() {
    // Field 0 stands at 0, and the lean is 30, at breath 11 of the round of 12 alone.
    on("3: the last BREATH of the round", "f0 12 1 5;f30 2 0 0;h0 29;").due("cracks 0", 11).go("step 11")
        .due("cracks 0", 11).go("step 1").due("cracks 0", 23);
    on("3: the round of both FIELDS", "f0 11 6 9;f0 12 0 9;h0 53;").due("cracks 0", 126).go("step 127").due("cracks 0", 258);
    on("3: far on", "f0 12 1 5;f30 2 0 0;h0 29;").go("step 999;step 999;step 999").due("cracks 0", 2999);
  }

  private static void cracksNever() {
    on("16: NONE", "f0 12 1 5;f30 2 0 0;h0 30;").due("cracks 0", NONE).go("slack 0 999").due("cracks 0", NONE)
        .go("slack 0 29").due("cracks 0", 11);
  }

  private static void worstOfNone() {
    fresh("17: NONE: no FIELDS").due("worst", NONE);
    on("17: NONE: no HOUSES", TWO).due("worst", NONE);
    on("17: NONE: none needs any: as much as it has", "f0 2 0 0;f9 2 0 0;h0 9;h0 10;").due("worst", NONE)
        .go("slack 1 8").due("worst", 1);
  }

  private static void worstOfLikeOnes() {
    on("3: of like ones the least", "f0 2 0 0;f9 2 0 0;h0 9;h0 4;h0 4;h0 5;").due("worst", 1).go("slack 2 3").due("worst", 2)
        .go("slack 3 3").due("worst", 2).go("slack 3 0").due("worst", 3);
  }

  private static void worstIsByWhatItNeedsMore() {
    on("3: the first HOUSE", "f0 2 0 0;f9 2 0 0;h0 1;h0 5;h0 7;h0 9;").due("worst", 0);
    on("3: the last HOUSE", "f0 2 0 0;f9 2 0 0;h0 9;h0 7;h0 5;h0 1;").due("worst", 3);
    // One needs 20 and has 19; the other needs 5 and has 3.
    on("3: needs most more than it has", "f0 2 0 0;f20 2 0 0;f15 2 0 0;h0 19;h1 3;").due("worst", 1).go("step 1;hold 3")
        .due("worst", 1);
  }

  private static void waterBounds() {
    Run r = on("18 water: n STEPS (0 .. 99)", "f1 2 0 0;f0 2 0 0;");
    r.due("water 0 0", 0).due("water 0 99", 1).due("water 0 -1;water 0 100;water 0 " + MIN + ";water 0 " + MAX, OUTSIDE);
    r.due("water -1 0;water 2 0;water 2 100;water -1 -1;water " + MIN + " 0;water " + MAX + " 0", UNKNOWN);
    fresh("18 water: no FIELDS").due("water 0 0;water 0 100", UNKNOWN);
    // Field 1 stands at 0, 9, 0, 9 beside field 0 at 4: it runs to and fro.
    on("18: the 99th STEP counts", "f4 2 0 0;f0 2 0 9;").due("water 1 98", 1).due("water 1 99", 0);
  }

  private static void waterBehindNoSteps() {
    on("18: behind 0 STEPS it is where it is", "f0 2 0 0;f9 2 0 0;f0 2 0 0;").due("water 1 0", 1).due("water 1 1", 0)
        .due("water 2 0", 2);
  }

  private static void waterAtTheEndsOfTheStreet() {
    on("3: one FIELD alone", FIELD).due("water 0 0;water 0 1;water 0 99", 0);
    on("3: from end to end", "f7 2 0 0;f6 2 0 0;f5 2 0 0;f4 2 0 0;f3 2 0 0;f2 2 0 0;f1 2 0 0;f0 2 0 0;").due("water 0 6", 6)
        .due("water 0 7;water 0 8;water 0 99;water 7 99", 7);
    on("3: from end to end", "f0 2 0 0;f1 2 0 0;f2 2 0 0;f3 2 0 0;f4 2 0 0;f5 2 0 0;f6 2 0 0;f7 2 0 0;").due("water 7 6", 1)
        .due("water 7 7;water 7 8;water 7 99;water 0 99", 0);
  }

  private static void waterOnTheLevelStays() {
    on("3: if that is lower than its own", "f5 2 0 0;f5 2 0 0;f5 2 0 0;").due("water 1 99", 1);
    on("3: if that is lower than its own", "f6 2 0 0;f5 2 0 0;f7 2 0 0;").due("water 1 99", 1);
  }

  private static void waterOfTwoTheLower() {
    on("3: of two the lower one", "f5 2 0 0;f9 2 0 0;f4 2 0 0;").due("water 1 1", 2);
    on("3: of two the lower one", "f4 2 0 0;f9 2 0 0;f5 2 0 0;").due("water 1 1", 0);
    on("3: of like ones the west one", "f5 2 0 0;f9 2 0 0;f5 2 0 0;").due("water 1 1", 0);
  }

  private static void waterByHeightsBehindTheStep() {
    // Field 1 stands at 0, 9, 0, 9 beside field 0 at 4.
    on("3: by HEIGHTS behind that STEP", "f4 2 0 0;f0 2 0 9;").due("water 1 1", 0).due("water 1 2", 1).due("water 0 1", 0)
        .due("water 0 2", 1).go("step 1").due("water 1 1", 1).due("water 1 2", 0).go("hold 1").due("water 1 1", 1);
    // Field 1 stands at 1, 2, 1, 0 beside field 0 at 1: it is lower at breath 3 alone.
    on("3: by HEIGHTS behind that STEP, not ahead", "f1 2 0 0;f0 4 1 1;").due("water 0 1;water 0 2", 0).due("water 0 3", 1)
        .go("step 2").due("water 0 1", 1);
  }

  private static void millBounds() {
    Run r = on("19 mill: UNKNOWN (the last FIELD, too)", "f0 2 0 0;f9 2 0 0;f3 2 0 0;");
    r.row("mill 0", 0, 2, 18).row("mill 1", 2, 0, 12);
    r.due("mill 2 0;mill 3 0;mill -1 0;mill 2 3;mill -1 -1;mill " + MIN + " 0;mill " + MAX + " 0", UNKNOWN);
    r.due("mill 0 -1;mill 0 3;mill 1 -1;mill 1 3;mill 0 " + MIN + ";mill 0 " + MAX, OUTSIDE);
    on("19 mill: one FIELD is the last", FIELD).due("mill 0 0;mill 0 3", UNKNOWN);
    fresh("19 mill: no FIELDS").due("mill 0 0;mill 0 3", UNKNOWN);
    on("19 mill: the seventh gap", FIELD.repeat(7) + "f1 2 0 0;").row("mill 6", 0, 2, 2).due("mill 7 0", UNKNOWN);
  }

  private static void millCountsNoLevelBreath() {
    // Leans 0, 5, 0, 5 and -5, 0, -5, 0.
    on("3: LEAN below 0, above", "f0 2 0 0;f0 2 0 5;").row("mill 0", 0, 1, 5);
    on("3: LEAN below 0, above", "f5 2 0 0;f0 2 0 5;").row("mill 0", 1, 0, 5);
    on("3: all level", TWO).row("mill 0", 0, 0, 0);
  }

  private static void millIsOfTheStreetsRound() {
    on("3: in ROUND BREATHS: of all FIELDS", "f0 2 0 0;f0 2 0 5;f0 11 0 0;f0 12 0 0;").row("mill 0", 0, 66, 330)
        .row("mill 1", 66, 0, 330).go("step 7;hold 1").row("mill 0", 0, 66, 330);
    on("3: the greatest GROUND of all", "f0 12 0 0;f99 11 0 9;f0 10 0 0;f0 9 0 0;f0 8 0 0;f0 7 0 0;f0 6 0 0;f0 5 0 0;")
        .row("mill 0", 0, 27720, 27720 / 11 * (11 * 99 + 9 * 30));
  }

  private static void bestMillOfLessThanTwoFields() {
    fresh("20: NONE: less than two FIELDS: none").due("bestMill", NONE);
    on("20: NONE: less than two FIELDS: one", "f5 2 0 9;").due("bestMill", NONE);
    on("20: two FIELDS", "f5 2 0 9;f5 2 0 9;").due("bestMill", 0);
  }

  private static void bestMillOfLikeOnes() {
    on("3: of like ones the least", "f0 2 0 0;f9 2 0 0;f0 2 0 0;f9 2 0 0;").due("bestMill", 0);
    on("3: of like ones the least", "f0 2 0 0;f3 2 0 0;f0 2 0 0;f3 2 0 0;f2 2 0 0;").due("bestMill", 0);
    on("3: the greatest, the last", "f0 2 0 0;f3 2 0 0;f0 2 0 0;f4 2 0 0;").due("bestMill", 2);
    on("3: each as if above 0", "f0 2 0 0;f3 2 0 0;f0 2 0 0;f1 2 0 0;").due("bestMill", 0);
    on("3: each as if above 0", "f0 2 0 0;f3 2 0 0;f9 2 0 0;f0 2 0 0;").due("bestMill", 2);
  }

  private static void soonestBounds() {
    on("21: UNKNOWN", TWO).due("soonest 0 1;soonest 1 0", 1)
        .due("soonest -1 0;soonest 0 -1;soonest 2 0;soonest 0 2;soonest 2 2;soonest -1 -1", UNKNOWN)
        .due("soonest " + MIN + " 0;soonest 0 " + MAX, UNKNOWN);
    fresh("21: UNKNOWN: no FIELDS").due("soonest 0 0", UNKNOWN);
    on("21: from end to end", FIELD.repeat(8)).due("soonest 0 7;soonest 7 0", 7);
  }

  private static void soonestItIsThere() {
    on("3: 0: it is there", TWO + "s0 1 0 0;").due("soonest 0 0;soonest 1 1", 0);
    on("3: from a FIELD, not from where THE BARREL is", THREE + "b2;").due("soonest 0 1", 1).due("soonest 0 0", 0);
  }

  private static void soonest200AtMost() {
    // Through the first gap and the second in steps 12, 144, 276 alone.
    String text = THREE + "s0 12 0 1;s0 11 1 1;s1 12 0 1;s1 11 1 1;";
    on("3: 200 at most", text).due("soonest 0 1", 12).due("soonest 0 2", 144).go("step 75").due("soonest 0 2", NONE)
        .go("step 1").due("soonest 0 2", 200);
  }

  private static void soonestNever() {
    on("21: NONE", THREE + "s1 3 0 0;").due("soonest 0 1", 1).due("soonest 0 2;soonest 1 2;soonest 2 0", NONE);
    on("21: NONE: two that are never open together", TWO + "s0 2 0 1;s0 2 1 1;").due("soonest 0 1;soonest 1 0", NONE);
  }

  private static void soonestFromNow() {
    on("3: TRIED from now", TWO + "s0 5 0 1;").due("soonest 0 1", 5).go("step 4").due("soonest 0 1", 1).go("hold 1")
        .due("soonest 0 1", 5).go("hold 1").due("soonest 0 1", 4);
  }

  private static void leastBounds() {
    Run r = on("22 least: n STEPS at most (1 .. 30)", TWO);
    r.due("least 0 1 1 -1;least 0 1 30 -1", 0);
    r.due("least 0 1 0 -1;least 0 1 31 -1;least 0 1 -1 0;least 0 1 " + MIN + " 0;least 0 1 " + MAX + " 0", OUTSIDE);
    r.due("least 0 0 0 -1;least 0 0 31 0", OUTSIDE);
    r.due("least -1 0 1 -1;least 2 0 1 -1;least 0 -1 1 -1;least 0 2 1 -1;least 2 2 31 0;least -1 0 0 0", UNKNOWN);
    r.due("least " + MIN + " 0 1 0;least 0 " + MAX + " 1 0", UNKNOWN);
    fresh("22 least: no FIELDS").due("least 0 0 1 -1;least 0 0 0 -1", UNKNOWN);
  }

  private static void leastItIsThere() {
    on("3: it ends when it is there, at once", "f0 2 0 0;f9 2 0 0;").due("least 1 1 1 -1;least 1 1 30 -1", 0)
        .due("least 1 1 1 0;least 1 1 30 0", NONE);
  }

  private static void leastEndsWhenItIsThere() {
    // Field 1 stands at 0, 5, 10, 5: the fourth step pulls nothing.
    Run r = on("3: it ends when it is there", "f0 2 0 0;f0 4 0 5;");
    r.due("least 0 1 1 -1", 5).due("least 0 1 1 0", 2).due("least 0 1 1 1", NONE);
    r.due("least 0 1 4 -1", 0).row("least 0 1 4", 0, 0, 0, 2, NONE, NONE);
    r.due("least 0 1 7 -1", 0).row("least 0 1 7", 0, 0, 0, 2, NONE);
    r.due("least 0 1 8 -1", 0).row("least 0 1 8", 0, 0, 0, 0, 0, 0, 0, 2, NONE);
  }

  private static void leastOfLikeOnesTheFirst() {
    on("3: of like ones the first: stays", THREE).row("least 0 2 3", 0, 2, 2, NONE).row("least 2 0 3", 0, 1, 1, NONE);
    on("3: of like ones the first: not the soonest", THREE).row("least 1 2 3", 0, 0, 2, NONE).row("least 1 0 3", 0, 0, 1, NONE);
    // The second gap is open in step 2 alone: the first one is rolled in step 1, though later would do as well.
    on("3: of like ones the first: as late as it can", THREE + "s1 12 2 1;").row("least 0 2 9", 2, 2, NONE)
        .row("least 1 2 9", 0, 2, NONE);
  }

  private static void leastTheIth() {
    on("22: i = NONE how much, else the i-th way", THREE).due("least 0 2 2 -1", 0).row("least 0 2 2", 2, 2, NONE)
        .due("least 0 2 2 -2;least 0 2 2 " + MIN + ";least 0 2 2 " + MAX + ";least 0 2 2 30", NONE);
  }

  private static void leastNone() {
    on("22: NONE: too far", THREE).due("least 0 2 1 -1;least 0 2 1 0;least 2 0 1 -1", NONE).due("least 0 2 2 -1", 0);
    on("22: NONE: shut", TWO + "s0 1 0 0;").due("least 0 1 30 -1;least 0 1 30 0", NONE);
    on("22: NONE: open a STEP too late", TWO + "s0 12 4 1;").due("least 0 1 3 -1", NONE).due("least 0 1 4 -1", 0)
        .row("least 0 1 4", 0, 0, 0, 2).go("step 1").due("least 0 1 3 -1", 0).go("hold 3")
        .due("least 0 1 11 -1", NONE).due("least 0 1 12 -1", 0);
  }

  private static void leastOfThirtySteps() {
    // The gap is open in steps that leave 6 over by 12 and 8 over by 11: the first is step 30.
    Run r = on("3: the thirtieth STEP counts", TWO + "s0 12 6 1;s0 11 8 1;");
    r.due("least 0 1 29 -1", NONE).due("least 0 1 30 -1", 0).due("least 0 1 30 28", 0).due("least 0 1 30 29", 2)
        .due("least 0 1 30 30", NONE);
    on("3: the greatest PULLED", "f0 2 0 0;f99 2 0 0;f0 2 0 0;f99 2 0 0;f0 2 0 0;f99 2 0 0;f0 2 0 0;f99 2 0 0;")
        .due("least 0 7 30 -1", 396).due("least 7 0 30 -1", 297).due("least 0 7 6 -1", NONE).due("least 0 7 7 -1", 396);
  }

  private static void openBounds() {
    Run r = on("23: UNKNOWN: bits of such", TWO + "s0 2 1 1;s0 3 2 1;");
    r.due("open 1", 1).due("open 2", 2).due("open 3", 5).due("open 4;open 5;open 7;open 8;open -1;open -4", UNKNOWN);
    r.due("open " + MIN + ";open " + MAX + ";open 16;open 65536", UNKNOWN);
    on("23: four SEAMS", TWO + "s0 1 0 1;".repeat(4)).due("open 15", 0).due("open 16;open 31;open -1", UNKNOWN);
  }

  private static void openOfNoSeams() {
    on("23: an empty SET is open now", TWO).due("open 0", 0).due("open 1;open -1", UNKNOWN);
    fresh("23: an empty SET is open now, without FIELDS, too").due("open 0", 0).due("open 1", UNKNOWN);
  }

  private static void openNow() {
    on("3: 0: now", TWO + "s0 5 3 1;").due("open 1", 3).go("hold 3").due("told 13", 1).due("open 1", 0).go("step 1")
        .due("open 1", 4);
    on("3: by STEPS, round its end", TWO + "s0 5 4 3;").due("open 1", 0).go("step 1").due("open 1", 0).go("hold 1")
        .due("open 1", 2);
  }

  private static void openAtTheEndOfTheRound() {
    on("3: the last STEP of the round", TWO + "s0 12 11 1;").due("open 1", 11).go("step 11").due("open 1", 0).go("step 1")
        .due("open 1", 11);
    // All four leave their P less 1 over: only ahead of the end of the round of 6930.
    on("3: by remainders, the last STEP of the round", TWO + "s0 11 10 1;s0 10 9 1;s0 9 8 1;s0 7 6 1;").due("open 15", 6929)
        .due("open 7", 989).go("step 999;step 999;step 999;step 999;step 999;step 999;step 935").due("open 15", 0)
        .go("step 1").due("open 15", 6929);
  }

  private static void openNever() {
    on("23: NONE: never open", TWO + "s0 5 0 0;s0 1 0 1;").due("open 1;open 3", NONE).due("open 2", 0);
    on("23: NONE: never together", TWO + "s0 4 0 1;s0 6 1 1;s0 3 0 1;").due("open 3;open 6;open 7", NONE).due("open 5", 0);
  }

  private static void longestBounds() {
    Run r = on("24: UNKNOWN: bits of such", TWO + "s0 5 1 2;s0 3 2 1;");
    r.due("longest 1", 2).due("longest 2", 1).due("longest 3", 1);
    r.due("longest 4;longest 5;longest 7;longest 8;longest -1;longest " + MIN + ";longest " + MAX, UNKNOWN);
    on("24: four SEAMS", TWO + "s0 1 0 1;".repeat(4)).due("longest 15", NONE).due("longest 16;longest -1", UNKNOWN);
  }

  private static void longestAlways() {
    on("24: NONE: always: as wide as P", TWO + "s0 5 3 5;s0 5 3 4;s0 5 3 12;s0 1 0 1;").due("longest 1", NONE)
        .due("longest 2", 4).due("longest 4;longest 5;longest 8;longest 13", NONE).due("longest 3;longest 15", 4);
    on("24: NONE: always: an empty SET", TWO).due("longest 0", NONE).due("longest 1", UNKNOWN);
    fresh("24: NONE: always: an empty SET, without FIELDS, too").due("longest 0", NONE).due("longest 1", UNKNOWN);
    on("24: two that are never shut together are not always open", TWO + "s0 2 0 1;s0 2 1 1;").due("longest 3", 0);
  }

  private static void longestNever() {
    on("3: never open: 0", TWO + "s0 5 0 0;s0 1 0 1;").due("longest 1;longest 3", 0).due("longest 2", NONE);
    on("3: never together: 0", TWO + "s0 4 0 1;s0 6 1 1;").due("longest 3", 0).due("longest 1;longest 2", 1);
  }

  private static void longestRoundTheEnd() {
    on("3: round the end", TWO + "s0 6 4 4;").due("longest 1", 4).go("step 5").due("longest 1", 4);
    // Open in 10, 11, 0, 1, 2 over by 12 and in 3, 0, 1 over by 4: together in 11, 0, 1.
    on("3: round the end, both", TWO + "s0 12 10 5;s0 4 3 3;").due("longest 3", 3).go("step 1").due("longest 3", 3);
    on("3: in the round of their P", TWO + "s0 12 0 11;s0 11 0 10;").due("longest 3", 10).due("longest 1", 11)
        .due("longest 2", 10);
    on("3: the longest of several", TWO + "s0 2 0 1;s0 12 0 12;s0 6 2 3;").due("longest 1;longest 5", 1).due("longest 4", 3);
  }
}
