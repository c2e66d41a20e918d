/**
 * Terms: of several refusals the first in the order UNKNOWN, OUTSIDE, NOT, FULL; and what is refused
 * changes nothing. Each row is a call in words and its refusal; it is made in the state that the row
 * is told for, and all behind it must be as it was.
 */
public final class RefusedTest {
  private static final Checks C = new Checks();

  /** On a busy street: four fields, two houses, three seams; image 1 was not kept; 10 steps to undo. */
  private static final String[] BUSY = {
    "feed -1 OUTSIDE", "feed 256 OUTSIDE", "told -1 OUTSIDE", "told 15 OUTSIDE",
    "field -1 0 UNKNOWN", "field 4 0 UNKNOWN", "field 4 6 UNKNOWN", "field 3 6 OUTSIDE", "field 0 -1 OUTSIDE",
    "height -1 0 UNKNOWN", "height 4 0 UNKNOWN", "height 4 -1 UNKNOWN", "height 3 -1 OUTSIDE", "height 0 1000001 OUTSIDE",
    "house -1 0 UNKNOWN", "house 2 0 UNKNOWN", "house 2 3 UNKNOWN", "house 1 3 OUTSIDE", "house 0 -1 OUTSIDE",
    "seam -1 0 UNKNOWN", "seam 3 0 UNKNOWN", "seam 3 4 UNKNOWN", "seam 2 4 OUTSIDE", "seam 0 -1 OUTSIDE",
    "step 0 OUTSIDE", "step -1 OUTSIDE", "step 1000 OUTSIDE", "hold 0 OUTSIDE", "hold -1 OUTSIDE", "hold 1000 OUTSIDE",
    "roll -1 OUTSIDE", "roll 3 OUTSIDE",
    "slack -1 5 UNKNOWN", "slack 2 5 UNKNOWN", "slack 2 1000 UNKNOWN", "slack 0 -1 OUTSIDE", "slack 1 1000 OUTSIDE",
    "drift 0 OUTSIDE", "drift -1 OUTSIDE", "drift 100 OUTSIDE",
    "undo 0 OUTSIDE", "undo -1 OUTSIDE", "undo 41 OUTSIDE", "undo 11 NOT", "undo 40 NOT",
    "cracks -1 UNKNOWN", "cracks 2 UNKNOWN",
    "water -1 0 UNKNOWN", "water 4 0 UNKNOWN", "water 4 100 UNKNOWN", "water 0 -1 OUTSIDE", "water 3 100 OUTSIDE",
    "mill -1 0 UNKNOWN", "mill 3 0 UNKNOWN", "mill 4 0 UNKNOWN", "mill 3 3 UNKNOWN", "mill 0 -1 OUTSIDE", "mill 2 3 OUTSIDE",
    "soonest -1 0 UNKNOWN", "soonest 4 0 UNKNOWN", "soonest 0 -1 UNKNOWN", "soonest 0 4 UNKNOWN",
    "least -1 0 1 -1 UNKNOWN", "least 4 0 1 -1 UNKNOWN", "least 0 -1 1 0 UNKNOWN", "least 0 4 1 0 UNKNOWN",
    "least 4 0 0 0 UNKNOWN", "least 0 4 31 0 UNKNOWN", "least 0 3 0 -1 OUTSIDE", "least 0 3 31 0 OUTSIDE",
    "open 8 UNKNOWN", "open 9 UNKNOWN", "open -1 UNKNOWN", "longest 8 UNKNOWN", "longest 9 UNKNOWN", "longest -1 UNKNOWN",
    "hear -1 0 UNKNOWN", "hear 4 0 UNKNOWN", "hear 4 31 UNKNOWN", "hear 0 -1 OUTSIDE", "hear 3 31 OUTSIDE",
    "see -1 0 0 UNKNOWN", "see 4 0 0 UNKNOWN", "see 4 10000 1000 UNKNOWN", "see 0 -1 0 OUTSIDE", "see 0 10000 0 OUTSIDE",
    "see 0 0 -1 OUTSIDE", "see 0 0 1000 OUTSIDE", "rounds -1 0 UNKNOWN", "rounds 4 0 UNKNOWN", "rounds 4 -1 UNKNOWN",
    "cellars -1 1 OUTSIDE", "cellars 1000 1 OUTSIDE", "cellars 0 0 OUTSIDE", "cellars 0 41 OUTSIDE",
    "sluices -1 1 0 OUTSIDE", "sluices 1000 1 0 OUTSIDE", "sluices 0 0 0 OUTSIDE", "sluices 0 41 0 OUTSIDE",
    "sluices 0 1 -1 OUTSIDE", "sluices 0 1 2 OUTSIDE",
    "odds -1 0 1 0 UNKNOWN", "odds 4 0 1 0 UNKNOWN", "odds 4 -1 0 101 UNKNOWN", "odds 0 -1 1 0 OUTSIDE",
    "odds 0 1000 1 0 OUTSIDE", "odds 0 0 0 0 OUTSIDE", "odds 0 0 21 0 OUTSIDE", "odds 0 0 1 -1 OUTSIDE", "odds 0 0 1 101 OUTSIDE",
    "write -1 OUTSIDE", "write 3 OUTSIDE", "judge -1 OUTSIDE", "judge 2 OUTSIDE", "seed -1 OUTSIDE", "seed -2147483648 OUTSIDE",
    "keep -1 UNKNOWN", "keep 2 UNKNOWN", "goBack -1 UNKNOWN", "goBack 2 UNKNOWN", "goBack 1 NOT"};

  /** Nothing more can be taken; image 0 was not kept; 40 steps to undo. */
  private static final String[] FULL = {
    "feed 102 FULL", "feed 32 FULL", "feed 0 FULL", "feed 255 FULL", "feed -1 OUTSIDE", "feed 256 OUTSIDE",
    "hear 0 0 FULL", "hear 3 30 FULL", "hear 0 31 OUTSIDE", "hear 0 -1 OUTSIDE", "hear 4 0 UNKNOWN", "hear 4 31 UNKNOWN",
    "see 0 0 0 FULL", "see 3 9999 999 FULL", "see 0 10000 0 OUTSIDE", "see 0 0 1000 OUTSIDE", "see 4 0 0 UNKNOWN",
    "see 4 -1 -1 UNKNOWN", "write 0 FULL", "write 1 FULL", "write 2 FULL", "write -1 OUTSIDE", "write 3 OUTSIDE",
    "undo 41 OUTSIDE", "undo 0 OUTSIDE", "goBack 0 NOT", "goBack 2 UNKNOWN"};

  /** A new object: no fields, nothing to undo, no image. */
  private static final String[] NEW = {
    "feed -1 OUTSIDE", "feed 256 OUTSIDE", "told 15 OUTSIDE", "field 0 0 UNKNOWN", "field 0 9 UNKNOWN", "height 0 0 UNKNOWN",
    "height 0 -1 UNKNOWN", "house 0 0 UNKNOWN", "house 0 3 UNKNOWN", "seam 0 0 UNKNOWN", "seam 0 4 UNKNOWN", "step 0 OUTSIDE",
    "hold 1000 OUTSIDE", "roll 0 NOT", "roll 1 NOT", "roll 2 NOT", "roll 3 OUTSIDE", "slack 0 0 UNKNOWN", "slack 0 -1 UNKNOWN",
    "drift 1 NOT", "drift 99 NOT", "drift 0 OUTSIDE", "drift 100 OUTSIDE", "undo 1 NOT", "undo 40 NOT", "undo 0 OUTSIDE",
    "undo 41 OUTSIDE", "cracks 0 UNKNOWN", "water 0 0 UNKNOWN", "water 0 100 UNKNOWN", "mill 0 0 UNKNOWN", "mill 0 3 UNKNOWN",
    "soonest 0 0 UNKNOWN", "least 0 0 1 -1 UNKNOWN", "least 0 0 0 -1 UNKNOWN", "open 1 UNKNOWN", "longest 1 UNKNOWN",
    "hear 0 0 UNKNOWN", "hear 0 31 UNKNOWN", "see 0 0 0 UNKNOWN", "see 0 -1 0 UNKNOWN", "rounds 0 -1 UNKNOWN",
    "cellars 0 0 OUTSIDE", "sluices 0 1 2 OUTSIDE", "odds 0 0 1 0 UNKNOWN", "odds 0 0 0 0 UNKNOWN", "write 3 OUTSIDE",
    "judge 0 NOT", "judge 1 NOT", "judge 2 OUTSIDE", "seed -1 OUTSIDE", "keep 2 UNKNOWN", "goBack 0 NOT", "goBack 1 NOT",
    "goBack 2 UNKNOWN"};

  public static void main(String[] args) {
    rows("busy", Probe::busy, BUSY);
    rows("fed", Probe::fed, BUSY);
    rows("full", Probe::full, FULL);
    rows("new", x -> { }, NEW);
    rollsThatCannotBe();
    C.finish();
  }

  private static void rows(String name, Probe.Play state, String[] rows) {
    for (String row : rows) {
      int end = row.lastIndexOf(' ');
      String[] words = row.substring(0, end).split(" ");
      int[] a = new int[words.length - 1];
      for (int k = 0; k < a.length; k++) {
        a[k] = Integer.parseInt(words[k + 1]);
      }
      String label = "in the state '" + name + "' " + row;
      Probe.sameIn(C, label, state, x -> C.due(label, Calls.call(x, words[0], a), refusal(row.substring(end + 1))));
    }
  }

  private static int refusal(String name) {
    switch (name) {
      case "UNKNOWN": return Checks.UNKNOWN;
      case "OUTSIDE": return Checks.OUTSIDE;
      case "NOT": return Checks.NOT;
      case "FULL": return Checks.FULL;
      default: throw new IllegalArgumentException(name);
    }
  }

  /** Where the barrel stands at an end, or ahead of a shut seam, in the middle of a day. */
  private static void rollsThatCannotBe() {
    String[][] shut = {
      {"f0 2 0 0;f9 2 0 0;h0 3;", "roll 1"},
      {"f0 2 0 0;f9 2 0 0;h0 3;b1;", "roll 2"},
      {"f0 2 0 0;f9 2 0 0;h0 3;s0 1 0 0;", "roll 2"},
      {"f0 2 0 0;f9 2 0 0;h0 3;s0 1 0 0;b1;", "roll 1"}};
    for (String[] one : shut) {
      String label = "12: NOT: " + one[1] + " on " + one[0];
      int way = one[1].endsWith("1") ? 1 : 2;
      Probe.sameIn(C, label, x -> midday(x, one[0]), x -> C.due(label, x.roll(way), Checks.NOT));
    }
  }

  private static void midday(BreathStreet x, String text) {
    Checks.feed(x, text);
    x.street();
    x.seed(5);
    x.keep(1);
    x.step(2);
    x.hold(1);
    Checks.feed(x, "f1 2 0 0;f1 2 0 0;h0 ");
  }
}
