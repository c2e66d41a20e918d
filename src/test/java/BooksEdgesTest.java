/** The boundary cases of promises 33 to 38 and of their TERMS: each method is one sentence. */
public final class BooksEdgesTest {
  private static final Checks C = new Checks();
  private static final int NONE = Checks.NONE;
  private static final int UNKNOWN = Checks.UNKNOWN;
  private static final int OUTSIDE = Checks.OUTSIDE;
  private static final int NOT = Checks.NOT;
  private static final int FULL = Checks.FULL;
  private static final String FIELD = "f0 2 0 0;";
  private static final String TWO = FIELD + FIELD;
  private static final String THREE = TWO + FIELD;
  private static final int MIN = Integer.MIN_VALUE;
  private static final int MAX = Integer.MAX_VALUE;

  public static void main(String[] args) {
    writeBounds();
    thirtyLines();
    judgeBounds();
    judgeWithoutFields();
    judgeOfAnEmptyBook();
    judgeTheFirstWrong();
    judgePulledAheadOfIt();
    judgeFromNow();
    judgeTheThirtiethLine();
    tearOfNothing();
    tearOfAll();
    seedBounds();
    keepBounds();
    goBackBounds();
    goBackOfWhatWasNotKept();
    imagesKeepAllSix();
    imagesKeepNothingElse();
    imagesAreTwo();
    imageIsKeptAnew();
    nothingCanBeUndoneThen();
    imagesWithoutFields();
    C.finish();
  }

  private static Run fresh(String sentence) {
    return Run.fresh(C, sentence);
  }

  private static Run on(String sentence, String text) {
    return Run.on(C, sentence, text);
  }

  private static void writeBounds() {
    on("33 write: 0 stays, 1 west, 2 east", TWO).due("write -1;write 3;write " + MIN + ";write " + MAX, OUTSIDE)
        .due("told 11", 0).due("write 0", 1).due("write 1", 2).due("write 2", 3).due("told 11", 3);
    fresh("33 write: no FIELDS are asked").due("write 2", 1).due("write 3", OUTSIDE);
  }

  private static void thirtyLines() {
    Run r = on("33: FULL (30)", TWO);
    for (int k = 1; k <= 30; k++) {
      r.due("write 0", k);
    }
    r.due("write 0;write 1;write 2", FULL).due("write -1;write 3", OUTSIDE).due("told 11", 30).due("judge 0", NONE);
    r.due("tear", 30).due("write 0", 1);
  }

  private static void judgeBounds() {
    on("34 judge: OUTSIDE", TWO).due("judge -1;judge 2;judge " + MIN + ";judge " + MAX, OUTSIDE).due("judge 0", NONE)
        .due("judge 1", 0);
  }

  private static void judgeWithoutFields() {
    fresh("34: NOT: no FIELDS").due("judge 0;judge 1", NOT).due("judge -1;judge 2", OUTSIDE).go("write 0").due("judge 0;judge 1", NOT);
    on("34: NOT: no FIELDS any more", TWO).due("street", 0).due("judge 0", NOT);
  }

  private static void judgeOfAnEmptyBook() {
    on("34: an empty BOOK", TWO).due("judge 0", NONE).due("judge 1", 0).go("write 1").due("judge 0", 0).go("tear").due("judge 0", NONE);
  }

  private static void judgeTheFirstWrong() {
    on("3: WRONG: the first that it cannot roll: off the west end", TWO).go("write 0;write 1;write 1").due("judge 0", 1);
    on("3: WRONG: off the east end", TWO).go("write 2;write 2;write 1").due("judge 0", 1);
    on("3: WRONG: at once", TWO).go("write 1").due("judge 0", 0).due("judge 1", 0);
    on("3: WRONG: a shut SEAM, by the number of its STEP", TWO + "s0 3 2 1;").go("write 2").due("judge 0", 0).go("step 1")
        .due("judge 0", NONE).go("write 1").due("judge 0", 1);
    on("3: WRONG: staying is never", TWO + "s0 1 0 0;").go("write 0;write 0").due("judge 0", NONE).go("write 2").due("judge 0", 2);
  }

  private static void judgePulledAheadOfIt() {
    // Field 1 stands at 0, 5, 10, 5 above field 0.
    on("3: PULLED by all ahead of it", "f0 2 0 0;f0 4 0 5;").go("write 2;write 1;write 2").due("judge 0", NONE).due("judge 1", 10)
        .go("write 1;write 2").due("judge 1", 15).go("write 2").due("judge 0", 5).due("judge 1", 15).go("write 1;write 2")
        .due("judge 0", 5).due("judge 1", 15);
    on("34: not what was PULLED so far", "f0 2 0 0;f9 2 0 0;").go("roll 2;roll 1;write 2").due("told 7", 9).due("judge 1", 9);
  }

  private static void judgeFromNow() {
    on("3: from now: where THE BARREL is", THREE).go("write 1").due("judge 0", 0).go("roll 2").due("judge 0", NONE)
        .due("told 4;told 6", 1).due("told 7", 0);
    on("3: from now: by BREATH", "f0 2 0 0;f0 4 0 5;").go("write 2").due("judge 1", 5).go("step 1").due("judge 1", 10)
        .go("hold 1").due("judge 1", 10).go("step 2").due("judge 1", 0);
  }

  private static void judgeTheThirtiethLine() {
    on("34: the thirtieth line counts", "f0 2 0 0;f9 2 0 0;").go("write 0;".repeat(29)).go("write 2").due("judge 0", NONE)
        .due("judge 1", 9).go("roll 2").due("judge 0", 29).due("judge 1", 0);
  }

  private static void tearOfNothing() {
    fresh("35: nothing to tear").due("tear;tear", 0);
    on("35: nothing to tear", TWO).due("tear", 0).due("told 0", 2);
  }

  private static void tearOfAll() {
    on("35: how much all had", TWO).go("hear 0 0;hear 0 0;see 0 0 0;write 0;write 0;write 0;write 0").due("tear", 7)
        .due("told 9;told 10;told 11;tear", 0).due("began -1", 62).due("rounds 0 -1", 77).due("judge 0", NONE);
    on("35: all full", TWO).go("hear 0 0;".repeat(12)).go("see 0 0 0;".repeat(12)).go("write 0;".repeat(30)).due("tear", 54)
        .due("tear", 0);
    on("35: nothing else goes", TWO + "h0 1;").go("step 3;roll 2;keep 0;step 1;seed 5;slack 0 2").feed("f").due("tear", 0)
        .due("told 4", 5).due("told 12;told 3;told 6", 1).due("house 0 1", 2).due("goBack 0", 1).due("told 4", 4);
  }

  private static void seedBounds() {
    fresh("36 seed: v (0 .. 2147483647): what it was").due("seed 0", 0).due("seed " + MAX, 0).due("seed -1;seed " + MIN, OUTSIDE)
        .due("seed 1", MAX).due("seed 0", 1).due("seed 0", 0);
  }

  private static void keepBounds() {
    on("37 keep: UNKNOWN", TWO).go("step 2").due("keep -1;keep 2;keep " + MIN + ";keep " + MAX, UNKNOWN).due("told 12", 2)
        .due("keep 0", 1).due("keep 1", 1);
  }

  private static void goBackBounds() {
    on("38 goBack: UNKNOWN", TWO).go("keep 0;keep 1;step 2").due("goBack -1;goBack 2;goBack " + MIN + ";goBack " + MAX, UNKNOWN)
        .due("told 4;told 12", 2).due("goBack 0;goBack 1", 1);
  }

  private static void goBackOfWhatWasNotKept() {
    fresh("38: NOT: it was not kept").due("goBack 0;goBack 1", NOT).due("goBack -1;goBack 2", UNKNOWN);
    on("38: NOT: it was not kept", TWO).go("step 2;keep 1").due("goBack 0", NOT).due("goBack 1", 1).go("step 1;keep 0")
        .due("goBack 0;goBack 1", 1);
    on("38: NOT: nothing can be undone yet stays so", TWO).go("step 2").due("goBack 0", NOT).due("told 12", 2);
  }

  private static void imagesKeepAllSix() {
    // Field 1 stands 9 above field 0.
    on("3: IMAGES keep STEPS, BREATH, THE BARREL, PULLED, SLACKS, THE SEED", "f0 2 0 0;f9 2 0 0;f0 2 0 0;h0 1;h1 2;h1 3;h0 4;")
        .go("roll 2;hold 2;step 1;slack 0 11;slack 3 14;seed 77").due("keep 1", 1)
        .go("roll 2;roll 1;hold 1;slack 0 5;slack 1 5;slack 2 5;slack 3 5;seed 4;roll 1").due("told 7", 18).due("goBack 1", 1)
        .due("told 4", 4).due("told 5", 2).due("told 6", 1).due("told 7", 9).due("house 0 1", 11).due("house 1 1", 2)
        .due("house 2 1", 3).due("house 3 1", 14).due("seed 0", 77);
  }

  private static void imagesKeepNothingElse() {
    on("3: what was HEARD, SEEN, written, fed stays", TWO).go("keep 0;step 1;hear 0 0;see 0 0 0;write 0").feed("ff")
        .due("goBack 0", 1).due("told 9;told 10;told 11", 1).due("told 3", 2).due("told 4", 0).feed("x").due("street", -11)
        .due("fault", 1).due("goBack 0", 1).due("fault", 1);
  }

  private static void imagesAreTwo() {
    on("3: IMAGES 0, 1", TWO).go("step 1;keep 0;step 1;keep 1;step 1").due("goBack 0", 1).due("told 4", 1).due("goBack 1", 1)
        .due("told 4", 2).due("goBack 0", 1).due("told 4", 1).go("step 7").due("goBack 0", 1).due("told 4", 1);
  }

  private static void imageIsKeptAnew() {
    on("37: IMAGE i becomes what is so", TWO + "h0 1;").go("keep 0;step 3;slack 0 9;seed 8;keep 0;step 3;slack 0 4;seed 1")
        .due("goBack 0", 1).due("told 4", 3).due("house 0 1", 9).due("seed 0", 8);
    on("37: what comes later does not change it", TWO + "h0 1;").go("keep 0;slack 0 9;goBack 0;slack 0 7;step 1").due("goBack 0", 1)
        .due("house 0 1", 1).due("told 4", 0);
  }

  private static void nothingCanBeUndoneThen() {
    on("37: nothing can be undone then", TWO).go("step 2").due("told 12", 2).go("keep 0").due("told 12", 0).due("undo 1", NOT)
        .go("step 1").due("told 12", 1).due("undo 1", 2);
    on("38: nothing can be undone then", TWO).go("keep 0;step 2").due("told 12", 2).go("goBack 0").due("told 12", 0)
        .due("undo 1", NOT).go("step 1").due("told 12", 1).due("undo 1", 0);
  }

  private static void imagesWithoutFields() {
    fresh("37, 38: no FIELDS are asked").go("step 2;hold 1;seed 3").due("keep 0", 1).go("step 5;seed 9").due("goBack 0", 1)
        .due("told 4", 3).due("told 5", 2).due("told 6", NONE).due("seed 0", 3);
  }
}
