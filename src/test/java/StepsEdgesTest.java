import java.math.BigInteger;

/**
 * The boundary cases of Terms, part 2 (STEPS) and of promises 6 to 15: each method is one sentence
 * of the document.
 */
public final class StepsEdgesTest {
  private static final Checks C = new Checks();
  private static final int NONE = Checks.NONE;
  private static final int UNKNOWN = Checks.UNKNOWN;
  private static final int OUTSIDE = Checks.OUTSIDE;
  private static final int NOT = Checks.NOT;
  private static final int FULL = Checks.FULL;
  private static final String FIELD = "f0 2 0 0;";
  private static final String TWO = FIELD + FIELD;
  private static final String THREE = TWO + FIELD;
  private static final int MIN = Integer.MIN_VALUE;
  private static final int MAX = Integer.MAX_VALUE;

  public static void main(String[] args) {
    fieldBounds();
    leanOfTheLastIsZero();
    heightBounds();
    heightsGoRoundTheirEnd();
    heightIsForAnyBreath();
    houseBounds();
    needsIsTheLeastThatNeverCracks();
    cracksWhenMoreThanSlackEitherWay();
    seamBounds();
    seamsGoRoundTheirEnd();
    seamsAreByStepsNotByBreath();
    stepBounds();
    holdBounds();
    heldIsStepsAlone();
    stepsNeedNoFields();
    stepsAbove900000();
    rollBounds();
    rollOffTheStreet();
    rollWithoutFields();
    rollThroughASeam();
    rollThroughSeveralSeams();
    rollPastOtherSeams();
    pulledByHeightsBehindTheStep();
    pulledIsZeroIfItIsNotHigher();
    slackBounds();
    driftBounds();
    driftWithoutFields();
    driftByDraws();
    driftStaysIfItCannot();
    driftHeldPullsByTheSameBreath();
    seedGoesRoundItsEnd();
    undoBounds();
    undoNotSoMany();
    latest40AreKept();
    undoneWhicheverCallMadeThem();
    undoneSinceTheImage();
    slacksAndSeedStay();
    C.finish();
  }

  private static Run fresh(String sentence) {
    return Run.fresh(C, sentence);
  }

  private static Run on(String sentence, String text) {
    return Run.on(C, sentence, text);
  }

  private static void fieldBounds() {
    Run r = on("6 field: UNKNOWN, OUTSIDE", "f1 3 0 4;f7 4 2 5;");
    r.row("field 0", 1, 3, 0, 4, 1, 16).row("field 1", 7, 4, 2, 5, 17, 0);
    r.due("field -1 0;field 2 0;field " + MIN + " 0;field " + MAX + " 0", UNKNOWN);
    r.due("field 0 -1;field 0 6;field 1 -1;field 1 6;field 0 " + MIN + ";field 0 " + MAX, OUTSIDE);
    r.due("field 2 6;field -1 -1", UNKNOWN);
    on("6 field: the eighth", FIELD.repeat(7) + "f9 2 0 0;").due("field 7 0", 9).due("field 8 0", UNKNOWN);
    fresh("6 field: no FIELDS").due("field 0 0;field 0 6;field -1 0", UNKNOWN);
  }

  private static void leanOfTheLastIsZero() {
    on("6: LEAN now (0 of the last)", "f5 2 0 0;f3 2 0 0;").due("field 0 5", -2).due("field 1 5", 0);
    on("6: LEAN now (0 of the last), one alone", "f50 3 1 9;").due("field 0 5", 0).go("step 1").due("field 0 5", 0);
    on("6: LEAN of the eighth", FIELD.repeat(6) + "f9 2 0 0;f3 2 0 0;").due("field 6 5", -6).due("field 7 5", 0);
  }

  private static void heightBounds() {
    Run r = on("7 height: a BREATH (0 .. 1000000)", "f10 7 0 3;");
    // 1000000 leaves 1 over by 7.
    r.due("height 0 0", 10).due("height 0 1000000", 13).due("height 0 999999", 10);
    r.due("height 0 -1;height 0 1000001;height 0 " + MIN + ";height 0 " + MAX, OUTSIDE);
    r.due("height 1 0;height -1 0;height 1 -1;height -1 1000001;height " + MIN + " 0;height " + MAX + " 0", UNKNOWN);
    on("7 height: greatest of all", "f99 12 11 9;").due("height 0 7", 153).due("height 0 1", 99);
    fresh("7 height: no FIELDS").due("height 0 0;height 0 -1", UNKNOWN);
  }

  private static void heightsGoRoundTheirEnd() {
    for (int n = 2; n <= 12; n++) {
      for (int late = 0; late <= 11; late++) {
        Run r = on("2: HEIGHT, N " + n + ", L " + late, "f1 " + n + " " + late + " 9;");
        int left = 0;
        for (int k = 0; k < late; k++) {
          left = left + 1 == n ? 0 : left + 1;
        }
        for (int breath = 0; breath <= 25; breath++) {
          r.due("height 0 " + breath, 1 + 9 * Math.min(left, n - left));
          left = left + 1 == n ? 0 : left + 1;
        }
      }
    }
  }

  private static void heightIsForAnyBreath() {
    on("7: at a BREATH, whatever is now", "f0 5 0 2;").go("step 3;hold 4").due("height 0 0", 0).due("height 0 2", 4)
        .due("field 0 4", 4).due("height 0 3", 4);
  }

  private static void houseBounds() {
    Run r = on("8 house: UNKNOWN, OUTSIDE", "f0 2 0 0;f7 2 0 0;f9 2 0 0;h1 5;h0 6;");
    r.row("house 0", 1, 5, 2).row("house 1", 0, 6, 7);
    r.due("house -1 0;house 2 0;house 2 3;house -1 -1;house " + MIN + " 0;house " + MAX + " 0", UNKNOWN);
    r.due("house 0 -1;house 0 3;house 1 -1;house 1 3;house 0 " + MIN + ";house 0 " + MAX, OUTSIDE);
    on("8 house: the fourth", TWO + "h0 1;h0 2;h0 3;h0 4;").due("house 3 1", 4).due("house 4 1", UNKNOWN);
    on("8 house: no HOUSES", TWO).due("house 0 0;house 0 3", UNKNOWN);
  }

  private static void needsIsTheLeastThatNeverCracks() {
    // The lean is 54 only where 11 stands low and 12 stands high.
    Run r = on("3: NEEDS: the least SLACK by which it never does", "f0 11 6 9;f0 12 0 9;h0 0;");
    r.due("house 0 2", 54).go("slack 0 54").due("cracks 0", NONE).go("slack 0 53").due("cracks 0", 126);
    on("3: NEEDS at BREATH 0 alone", "f0 12 0 5;f30 2 0 0;h0 0;").due("house 0 2", 30).go("slack 0 29").due("cracks 0", 0);
    on("3: NEEDS at the last BREATH of the round alone", "f0 12 1 5;f30 2 0 0;h0 0;").due("house 0 2", 30);
    on("3: NEEDS of level ground", TWO + "h0 0;").due("house 0 2", 0).due("cracks 0", NONE);
    on("3: NEEDS the other way", "f0 12 0 9;f0 11 6 9;h0 0;").due("house 0 2", 54);
    on("3: NEEDS does not hang on SLACK", "f0 2 0 0;f9 2 0 0;h0 99;").due("house 0 2", 9).go("slack 0 0").due("house 0 2", 9);
    on("3: the greatest NEEDS", "f0 12 0 0;f99 12 0 9;h0 99;").due("house 0 2", 153);
  }

  private static void cracksWhenMoreThanSlackEitherWay() {
    on("2: more than SLACK", "f0 2 0 0;f9 2 0 0;h0 9;h0 8;").due("told 14", 2).due("cracks 0", NONE).due("cracks 1", 0);
    on("2: either way", "f9 2 0 0;f0 2 0 0;h0 9;h0 8;").due("told 14", 2).due("cracks 0", NONE).due("cracks 1", 0);
    on("2: level, no SLACK", TWO + "h0 0;").due("told 14", 0);
    on("5: HOUSES that CRACK now (a SET)", "f9 2 0 0;f0 2 0 0;h0 0;h0 9;h0 8;h0 1;").due("told 14", 13)
        .go("slack 3 9").due("told 14", 5);
    on("5: by BREATH, not by STEPS", "f0 2 0 9;f0 2 0 0;h0 5;").due("told 14", 0).go("hold 1").due("told 14", 0)
        .go("step 1").due("told 14", 1);
  }

  private static void seamBounds() {
    Run r = on("9 seam: UNKNOWN, OUTSIDE", THREE + "s1 12 11 10;s0 3 2 1;");
    r.row("seam 0", 1, 12, 11, 10).row("seam 1", 0, 3, 2, 1);
    r.due("seam -1 0;seam 2 0;seam 2 4;seam -1 -1;seam " + MIN + " 0;seam " + MAX + " 0", UNKNOWN);
    r.due("seam 0 -1;seam 0 4;seam 1 -1;seam 1 4;seam 0 " + MIN + ";seam 0 " + MAX, OUTSIDE);
    on("9 seam: no SEAMS", TWO).due("seam 0 0;seam 0 4", UNKNOWN);
    on("9 seam: R as told, though it is above P", TWO + "s0 3 11 12;").row("seam 0", 0, 3, 11, 12);
  }

  private static void seamsGoRoundTheirEnd() {
    for (int p = 1; p <= 12; p++) {
      for (int r = 0; r <= 11; r++) {
        for (int w = 0; w <= 12; w++) {
          boolean[] open = new boolean[p];
          for (int k = 0; k < w; k++) {
            open[(r + k) % p] = true;
          }
          Run run = on("1: SEAM P " + p + " R " + r + " W " + w + ", round its end", TWO + "s0 " + p + " " + r + " " + w + ";");
          for (int step = 0; step <= 13; step++) {
            run.due("told 13", open[step % p] ? 1 : 0).go("step 1");
          }
        }
      }
    }
  }

  private static void seamsAreByStepsNotByBreath() {
    on("1: open in STEPS", TWO + "s0 3 2 1;").due("told 13", 0).go("hold 2").due("told 13", 1).go("step 1")
        .due("told 13", 0).go("step 1;hold 1").due("told 13", 1).due("told 5", 2);
  }

  private static void stepBounds() {
    on("10 step: n STEPS (1 .. 999)", TWO).due("step 1", 1).due("told 4", 1).due("step 999", 1000).due("told 4", 1000)
        .due("step 0;step -1;step 1000;step " + MIN + ";step " + MAX, OUTSIDE).due("told 4;told 5", 1000);
  }

  private static void holdBounds() {
    on("11 hold: n STEPS HELD (1 .. 999)", TWO).due("hold 1", 0).due("told 4", 1).due("hold 999", 0).due("told 4", 1000)
        .due("hold 0;hold -1;hold 1000;hold " + MIN + ";hold " + MAX, OUTSIDE).due("told 4", 1000).due("told 5", 0);
  }

  private static void heldIsStepsAlone() {
    on("2: HELD: STEPS alone", "f0 9 0 1;").go("step 3").due("hold 5", 3).due("told 4", 8).due("told 5", 3)
        .due("field 0 4", 3).due("told 12", 8).due("told 6;told 7", 0);
  }

  private static void stepsNeedNoFields() {
    fresh("10, 11: no FIELDS are asked").due("step 3", 3).due("hold 2", 3).due("told 4", 5).due("undo 5", 0).due("told 5", 0);
  }

  /** 512 calls do not come so far; the sentence is held beyond them all the same. */
  private static void stepsAbove900000() {
    BreathStreet x = Checks.on(TWO);
    for (int k = 0; k < 900; k++) {
      x.step(999);
    }
    C.due("10: not above 900000 yet", x.step(899), 899999);
    x.seed(3);
    C.due("10: step(2) would be above 900000", x.step(2), FULL);
    C.due("11: hold(2) would be above 900000", x.hold(2), FULL);
    C.due("14: drift(2) would be above 900000", x.drift(2), FULL);
    C.due("14: FULL draws nothing", x.seed(0), 3);
    C.due("12: the last roll", x.roll(0), 0);
    C.due("5: STEPS", x.told(4), 900000);
    C.due("10: FULL", x.step(1), FULL);
    C.due("10: OUTSIDE comes ahead of FULL", x.step(1000), OUTSIDE);
    C.due("11: FULL", x.hold(1), FULL);
    C.due("11: OUTSIDE comes ahead of FULL", x.hold(0), OUTSIDE);
    C.due("12: FULL", x.roll(0), FULL);
    C.due("12: NOT comes ahead of FULL", x.roll(1), NOT);
    C.due("12: OUTSIDE comes ahead of FULL", x.roll(3), OUTSIDE);
    C.due("14: FULL", x.drift(1), FULL);
    C.due("14: OUTSIDE comes ahead of FULL", x.drift(100), OUTSIDE);
    C.due("5: STEPS", x.told(4), 900000);
    C.due("5: BREATH", x.told(5), 900000);
    C.due("15: undone", x.undo(1), 899999);
    C.due("11: held to the last", x.hold(1), 899999);
    C.due("15: undone", x.undo(2), 899998);
    C.due("14: drifted to the last", x.drift(2) < 0 ? 1 : 0, 0);
    C.due("5: STEPS", x.told(4), 900000);
    C.due("15: undone", x.undo(40), 899960);
    C.due("10: stepped to the last", x.step(40) < 0 ? 1 : 0, 0);
    C.due("5: STEPS", x.told(4), 900000);
  }

  private static void rollBounds() {
    Run r = on("12 roll: stays (0), west (1), east (2)", THREE + "b1;");
    r.due("roll -1;roll 3;roll " + MIN + ";roll " + MAX, OUTSIDE).due("told 4", 0);
    r.due("roll 0", 0).due("told 6", 1).due("roll 1", 0).due("told 6", 0).due("roll 2", 0).due("told 6", 1);
    r.due("told 4;told 5;told 12", 3);
  }

  private static void rollOffTheStreet() {
    on("12: NOT: no FIELD there", TWO).due("roll 1", NOT).due("told 4;told 6;told 12", 0).due("roll 2", 0).due("roll 2", NOT)
        .due("told 4;told 6;told 12", 1);
    on("12: NOT: one FIELD alone", FIELD).due("roll 1;roll 2", NOT).due("roll 0", 0).due("told 4", 1);
    on("12: NOT: the eighth is the last", FIELD.repeat(8) + "b7;").due("roll 2", NOT).due("roll 1", 0).due("told 6", 6);
  }

  private static void rollWithoutFields() {
    fresh("12: NOT: no FIELDS").due("roll 0;roll 1;roll 2", NOT).due("roll -1;roll 3", OUTSIDE).due("told 4;told 12", 0);
    on("12: NOT: no FIELDS any more", TWO).due("street", 0).due("roll 0", NOT);
  }

  private static void rollThroughASeam() {
    // Open in the step whose number leaves 2 over by 3: so from step 1 into step 2.
    on("12: open in the STEP that comes", TWO + "s0 3 2 1;").due("roll 2", NOT).due("told 4", 0).due("told 13", 0)
        .go("step 1").due("roll 2", 0).due("told 13", 1).due("roll 1", NOT).go("hold 2").due("roll 1", 0);
    on("12: open now is not open in the STEP that comes", TWO + "s0 2 0 1;").due("told 13", 1).due("roll 2", NOT);
    on("12: never open", TWO + "s0 5 0 0;").due("roll 2", NOT).go("step 1").due("roll 2", NOT).due("roll 0", 0);
    on("12: always open", TWO + "s0 5 3 5;").due("roll 2", 0).due("roll 1", 0).due("roll 2", 0).due("roll 1", 0).due("roll 2", 0);
  }

  private static void rollThroughSeveralSeams() {
    Run r = on("2: of several: each", TWO + "s0 2 1 1;s0 3 0 1;s0 1 0 1;");
    r.due("roll 2", NOT).go("step 1").due("roll 2", NOT).go("step 1").due("roll 2", 0).due("told 4", 3);
    on("2: of several: each, the last one too", TWO + "s0 1 0 1;s0 1 0 1;s0 1 0 1;s0 1 0 0;").due("roll 2", NOT);
  }

  private static void rollPastOtherSeams() {
    on("2: a SEAM between", THREE + "s0 2 0 0;b1;").due("roll 1", NOT).due("roll 0", 0).due("roll 2", 0).due("roll 1", 0);
    on("2: a SEAM between", THREE + "s1 2 0 0;b1;").due("roll 2", NOT).due("roll 0", 0).due("roll 1", 0).due("roll 2", 0);
  }

  private static void pulledByHeightsBehindTheStep() {
    // Field 1 stands at 0, 5, 10, 5 above field 0.
    on("2: by the HEIGHTS behind that STEP", "f0 2 0 0;f0 4 0 5;").due("roll 2", 5).due("told 7", 5).due("roll 1", 0)
        .go("step 3").due("roll 2", 10).due("told 7", 15);
    on("12: PULLED by it, not all", "f0 2 0 0;f9 2 0 0;").due("roll 2", 9).due("roll 1", 0).due("roll 2", 9).due("told 7", 18);
  }

  private static void pulledIsZeroIfItIsNotHigher() {
    on("2: 0, if it is not", "f9 2 0 0;f9 2 0 0;f0 2 0 0;").due("roll 2", 0).due("roll 2", 0).due("told 7", 0)
        .due("roll 1", 9).due("roll 0", 0).due("told 7", 9);
  }

  private static void slackBounds() {
    Run r = on("13 slack: v (0 .. 999)", TWO + "h0 5;h0 6;");
    r.due("slack 0 0", 5).due("slack 0 999", 0).due("house 0 1", 999).due("house 1 1", 6);
    r.due("slack 0 -1;slack 0 1000;slack 1 -1;slack 0 " + MIN + ";slack 0 " + MAX, OUTSIDE);
    r.due("slack -1 0;slack 2 0;slack 2 1000;slack -1 -1;slack " + MIN + " 0;slack " + MAX + " 0", UNKNOWN);
    r.due("house 0 1", 999).due("house 1 1", 6).due("slack 1 1", 6).due("slack 1 1", 1);
    on("13 slack: no HOUSES", TWO).due("slack 0 0;slack 0 1000", UNKNOWN);
    fresh("13 slack: no FIELDS").due("slack 0 0;slack 0 1000", UNKNOWN);
  }

  private static void driftBounds() {
    Run r = on("14 drift: n STEPS BY DRAWS (1 .. 99)", FIELD);
    r.due("drift 0;drift -1;drift 100;drift " + MIN + ";drift " + MAX, OUTSIDE).due("seed 0;told 4;told 12", 0);
    r.due("drift 1", 0).due("told 4;told 12", 1).due("drift 99", 0).due("told 4", 100).due("told 12", 40);
  }

  private static void driftWithoutFields() {
    fresh("14: NOT: no FIELDS").go("seed 5").due("drift 1;drift 99", NOT).due("drift 0;drift 100", OUTSIDE).due("seed 0", 5)
        .due("told 4", 0);
  }

  private static BigInteger drawn(BigInteger seed) {
    return seed.multiply(BigInteger.valueOf(1103515245L)).add(BigInteger.valueOf(12345L)).mod(BigInteger.ONE.shiftLeft(31));
  }

  private static int draw(BigInteger seed, int n) {
    return seed.divide(BigInteger.valueOf(65536L)).mod(BigInteger.valueOf(n)).intValue();
  }

  private static void driftByDraws() {
    // On a wide level street, STEP by STEP: first a DRAW of 8, then a DRAW of 3.
    Run r = on("3: BY DRAWS", FIELD.repeat(8) + "b4;").go("seed 2024");
    BigInteger seed = BigInteger.valueOf(2024);
    int at = 4;
    int breath = 0;
    for (int k = 1; k <= 60; k++) {
      seed = drawn(seed);
      breath += draw(seed, 8) == 0 ? 0 : 1;
      seed = drawn(seed);
      int way = draw(seed, 3);
      int next = way == 1 ? at - 1 : way == 2 ? at + 1 : at;
      at = next < 0 || next > 7 ? at : next;
      r.due("drift 1", at).due("told 5", breath).due("told 4", k);
    }
    r.due("seed 0", seed.intValueExact());
    on("14: where THE BARREL is, n at once", FIELD.repeat(8) + "b4;").go("seed 2024").due("drift 60", at).due("told 5", breath);
  }

  private static void driftStaysIfItCannot() {
    on("3: it stays, if not: no FIELD there", FIELD).go("seed 1").due("drift 99", 0).due("told 6;told 7", 0).due("told 4", 99);
    on("3: it stays, if not: a shut SEAM", THREE + "s0 1 0 0;s1 1 0 0;b1;").go("seed 1").due("drift 99", 1).due("told 7", 0);
  }

  /** A seed whose first draw of 8 is on 0 and whose next draw of 3 is east. */
  private static int heldThenEast() {
    for (int v = 0; v < 100000; v++) {
      BigInteger first = drawn(BigInteger.valueOf(v));
      if (draw(first, 8) == 0 && draw(drawn(first), 3) == 2) {
        return v;
      }
    }
    throw new IllegalStateException("no such seed");
  }

  private static void driftHeldPullsByTheSameBreath() {
    on("3: on 0 the STEP is HELD", "f0 2 0 0;f7 2 0 9;").go("seed " + heldThenEast()).due("drift 1", 1).due("told 4", 1)
        .due("told 5", 0).due("told 7", 7).due("undo 1", 0).due("told 6;told 7", 0);
    on("2: a SEAM is by STEPS in a HELD one, too", "f0 2 0 0;f7 2 0 9;s0 2 1 1;").go("seed " + heldThenEast()).due("drift 1", 1);
    on("2: a SEAM is by STEPS in a HELD one, too", "f0 2 0 0;f7 2 0 9;s0 2 0 1;").go("seed " + heldThenEast()).due("drift 1", 0);
  }

  private static void seedGoesRoundItsEnd() {
    int[] seeds = {0, 1, 65535, 65536, 1073741824, 2147483646, 2147483647};
    for (int v : seeds) {
      BigInteger seed = drawn(drawn(BigInteger.valueOf(v)));
      on("3: THE SEED left over by 2 to the 31, from " + v, FIELD).go("seed " + v + ";drift 1").due("seed 0", seed.intValueExact());
    }
  }

  private static void undoBounds() {
    Run r = on("15 undo: 1 .. 40", TWO).go("step 50");
    r.due("undo 0;undo -1;undo 41;undo " + MIN + ";undo " + MAX, OUTSIDE).due("told 4", 50).due("told 12", 40);
    r.due("undo 1", 49).due("told 12", 39).go("step 1").due("undo 40", 10).due("told 12", 0);
  }

  private static void undoNotSoMany() {
    fresh("15: NOT: nothing yet").due("undo 1;undo 40", NOT).due("undo 0;undo 41", OUTSIDE);
    on("15: NOT: not so many", TWO).go("step 3").due("undo 4;undo 40", NOT).due("told 4;told 12", 3).due("undo 3", 0)
        .due("undo 1", NOT);
  }

  private static void latest40AreKept() {
    on("3: the latest 40 are kept: 39", TWO).go("step 39").due("told 12", 39).due("undo 40", NOT).due("undo 39", 0);
    on("3: the latest 40 are kept: 40", TWO).go("step 40").due("told 12", 40).due("undo 40", 0).due("undo 1", NOT);
    on("3: the latest 40 are kept: 41", TWO).go("step 41").due("told 12", 40).due("undo 40", 1).due("undo 1", NOT);
    on("3: the latest 40 are kept: one by one", TWO).go("step 39;hold 1;step 1").due("told 12", 40).due("undo 1", 40)
        .due("told 5", 39).due("undo 1", 39).due("told 5", 39).due("undo 38", 1).due("told 5", 1).due("undo 1", NOT);
    on("3: the latest 40 are kept: 999 at once", TWO).go("hold 999").due("told 12", 40).due("undo 40", 959).due("undo 1", NOT);
    on("3: the latest 40 are kept: what was undone makes room for none", TWO).go("step 60;undo 30").due("told 12", 10)
        .go("step 5").due("told 12", 15).due("undo 15", 20).due("undo 1", NOT);
    on("3: the latest 40 are kept: drawn", FIELD).go("drift 99").due("told 12", 40).due("undo 40", 59).due("undo 1", NOT);
    on("3: the latest 40 are kept: rolled", FIELD).go("roll 0;".repeat(41)).due("told 12", 40).due("undo 40", 1).due("undo 1", NOT);
  }

  private static void undoneWhicheverCallMadeThem() {
    Run r = on("3: each by itself, whichever call made it", "f0 2 0 0;f9 2 0 0;");
    r.go("step 2;hold 2;roll 2;roll 0;seed 1;drift 1").due("told 12", 7);
    r.due("undo 1", 6).due("told 6", 1).due("told 7", 9).due("told 5", 4).due("undo 1", 5).due("told 6", 1).due("told 5", 3);
    r.due("undo 1", 4).due("told 6;told 7", 0).due("told 5", 2).due("undo 1", 3).due("told 5", 2).due("undo 1", 2);
    r.due("told 5", 2).due("undo 1", 1).due("told 5", 1).due("undo 1", 0).due("told 5;told 12", 0).due("undo 1", NOT);
  }

  private static void undoneSinceTheImage() {
    on("3: since the text or IMAGE: kept", TWO).go("step 5;keep 0").due("told 12", 0).due("undo 1", NOT).go("step 2")
        .due("told 12", 2).due("undo 3", NOT).due("undo 2", 5);
    on("3: since the text or IMAGE: gone back", TWO).go("keep 0;step 5;goBack 0").due("told 12", 0).due("undo 1", NOT)
        .go("step 2").due("undo 3", NOT).due("undo 2", 0);
  }

  private static void slacksAndSeedStay() {
    on("3: SLACKS, THE SEED stay", TWO + "h0 5;").go("drift 2;slack 0 9").due("undo 2", 0).due("house 0 1", 9)
        .due("seed 4", drawn(drawn(drawn(drawn(BigInteger.ZERO)))).intValueExact()).go("step 1;undo 1").due("seed 0", 4);
    on("15: nothing but STEPS is undone", TWO).go("step 1;hear 0 0;see 0 0 0;write 0").feed("f").due("undo 1", 0)
        .due("told 9;told 10;told 11;told 3", 1);
  }
}
